import java.util.Arrays;
import java.util.Random;

/** Runs of up to 512 calls by fixed seeds, each answer beside that of the slow model. */
public final class ModelTest {
    private static final int RUNS = 300;
    private static final int CALLS = 512;
    private static final String[] NAMES = {
        "letter", "blank", "fault", "house", "cell", "as", "dusk", "clerk", "look", "clerkOf", "person", "personOf",
        "step", "walk", "post", "tilt", "ledger", "forget", "fits", "days", "image", "restore", "count", "digest"};
    private static final String[] OFTEN = {
        "cell", "clerk", "look", "clerkOf", "person", "step", "step", "step", "walk", "walk", "post", "ledger",
        "ledger", "fits", "fits", "days", "dusk"};
    private static final String[] SIGNS = {"....#mbfwv", ".mb", "mb", ".........#", "..mbfw", ".#", "mmmmbbbb."};
    private static final int[] EXTREMES = {
        Integer.MIN_VALUE, Integer.MIN_VALUE + 1, -105, -2, -1, 11, 12, 13, 126, 127, Integer.MAX_VALUE};

    private final Random random;
    private final MirrorClerks x = new MirrorClerks();
    private final Model model = new Model();
    private final int run;
    private int calls = 0;

    private ModelTest(int run) {
        this.run = run;
        this.random = new Random(run);
    }

    public static void main(String[] args) {
        for (int run = 0; run < RUNS; run++) {
            new ModelTest(run).play();
        }
        Check.end("ModelTest");
    }

    private void play() {
        if (random.nextInt(4) == 0) {
            anyCalls(20);
        }
        while (calls < CALLS - 60) {
            aHouse();
            anyCalls(30 + random.nextInt(200));
        }
    }

    private void aHouse() {
        call("blank");
        String signs = SIGNS[random.nextInt(SIGNS.length)];
        for (int place = 0; place < 16; place++) {
            int digit = random.nextBoolean() ? '9' : '1' + random.nextInt(9);
            char sign = signs.charAt(random.nextInt(signs.length()));
            call("letter", place == 15 ? digit : place == 14 ? ';' : place % 5 == 4 ? ',' : sign);
        }
        call("house");
    }

    private void anyCalls(int most) {
        for (int i = 0; i < most && calls < CALLS; i++) {
            String name = (random.nextInt(3) == 0 ? NAMES : OFTEN)[random.nextInt(OFTEN.length)];
            name = random.nextInt(6) == 0 ? NAMES[random.nextInt(NAMES.length)] : name;
            call(name, number(name, 0), number(name, 1), number(name, 2));
        }
    }

    private int number(String call, int place) {
        if (random.nextInt(20) == 0) {
            return EXTREMES[random.nextInt(EXTREMES.length)];
        }
        if (call.equals("letter") || (call.equals("days") && place < 2)) {
            return random.nextInt(128);
        }
        if (call.equals("ledger")) {
            return random.nextInt(3) - 1;
        }
        boolean isCell = (place == 0 && ("cell as clerk person tilt".contains(call) || call.equals("count")))
            || (place == 1 && call.equals("walk"));
        return random.nextInt(isCell ? 12 : 4);
    }

    private void call(String name, int... a) {
        calls++;
        Check.due("run " + run + ", call " + calls + ": " + name + Arrays.toString(a), asked(name, a),
            model.answer(name, a));
    }

    private long asked(String name, int[] a) {
        switch (name) {
            case "letter": return x.letter(a[0]);
            case "blank": return x.blank();
            case "fault": return x.fault();
            case "house": return x.house();
            case "cell": return x.cell(a[0], a[1]);
            case "as": return x.as(a[0], a[1]);
            case "dusk": return x.dusk(a[0] != 0);
            case "clerk": return x.clerk(a[0], a[1]);
            case "look": return x.look(a[0], a[1]);
            case "clerkOf": return x.clerkOf(a[0], a[1]);
            case "person": return x.person(a[0]);
            case "personOf": return x.personOf(a[0], a[1]);
            case "step": return x.step(a[0], a[1]);
            case "walk": return x.walk(a[0], a[1], a[2]);
            case "post": return x.post(a[0]);
            case "tilt": return x.tilt(a[0], a[1]);
            case "ledger": return x.ledger(a[0]);
            case "forget": return x.forget();
            case "fits": return x.fits(a[0], a[1]);
            case "days": return x.days(a[0], a[1], a[2]);
            case "image": return x.image();
            case "restore": return x.restore();
            case "count": return x.count(a[0]);
            case "digest": return x.digest();
            default: throw new IllegalArgumentException(name);
        }
    }
}
