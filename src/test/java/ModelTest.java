import java.util.Random;

/** Runs of up to 512 calls by fixed seeds, each answer beside that of the slow model. */
public final class ModelTest {
    private static final int RUNS = 300;
    private static final int CALLS = 512;
    private static final String[] NAMES = {
        "letter", "blank", "fault", "house", "cell", "as", "dusk", "clerk", "look", "clerkOf", "person", "personOf",
        "step", "walk", "post", "tilt", "ledger", "forget", "fits", "days", "image", "restore", "count", "digest"};
    private static final String[] OFTEN = {
        "cell", "clerk", "look", "clerkOf", "person", "step", "step", "step", "walk", "walk", "post", "ledger",
        "ledger", "fits", "fits", "days", "dusk"};
    private static final String[] SIGNS = {"....#mbfwv", ".mb", "mb", ".........#", "..mbfw", ".#", "mmmmbbbb."};
    private static final int[] EXTREMES = {
        Integer.MIN_VALUE, Integer.MIN_VALUE + 1, -105, -2, -1, 11, 12, 13, 126, 127, Integer.MAX_VALUE};

    private final Random random;
    private final MirrorClerks x = new MirrorClerks();
    private final Model model = new Model();
    private final int run;
    private int calls = 0;

    private ModelTest(int run) {
        this.run = run;
        this.random = new Random(run);
    }

    public static void main(String[] args) {
        for (int run = 0; run < RUNS; run++) {
            new ModelTest(run).play();
        }
        Check.end("ModelTest");
    }

    private void play() {
        if (random.nextInt(4) == 0) {
            anyCalls(20);
        }
        while (calls < CALLS - 60) {
            aHouse();
            anyCalls(30 + random.nextInt(200));
        }
    }

    private void aHouse() {
        call("blank");
        String signs = SIGNS[random.nextInt(SIGNS.length)];
        for (int place = 0; place < 16; place++) {
            int digit = random.nextBoolean() ? '9' : '1' + random.nextInt(9);
            char sign = signs.charAt(random.nextInt(signs.length()));
            call("letter", place == 15 ? digit : place == 14 ? ';' : place % 5 == 4 ? ',' : sign);
        }
        call("house");
    }

    private void anyCalls(int most) {
        for (int i = 0; i < most && calls < CALLS; i++) {
            String name = (random.nextInt(3) == 0 ? NAMES : OFTEN)[random.nextInt(OFTEN.length)];
            name = random.nextInt(6) == 0 ? NAMES[random.nextInt(NAMES.length)] : name;
            call(name, number(name, 0), number(name, 1), number(name, 2));
        }
    }

    private int number(String call, int place) {
        if (random.nextInt(20) == 0) {
            return EXTREMES[random.nextInt(EXTREMES.length)];
        }
        if (call.equals("letter") || (call.equals("days") && place < 2)) {
            return random.nextInt(128);
        }
        if (call.equals("ledger")) {
            return random.nextInt(3) - 1;
        }
        boolean isCell = (place == 0 && ("cell as clerk person tilt".contains(call) || call.equals("count")))
            || (place == 1 && call.equals("walk"));
        return random.nextInt(isCell ? 12 : 4);
    }

    private void call(String name, int... a) {
        calls++;
        Check.due("run " + run + ", call " + calls + ": " + Check.told(name, a), Check.ask(x, name, a),
            model.answer(name, a));
    }
}
