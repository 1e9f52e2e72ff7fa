import java.util.Arrays;

/** What the tests have in common: they count wrong answers, and build houses from texts. */
final class Check {
    private static int checks = 0;
    private static int wrong = 0;

    private Check() {
    }

    static void due(String call, long got, long want) {
        checks++;
        if (got != want) {
            wrong++;
            System.out.println(call + " answered " + got + ", due is " + want);
        }
    }

    static void isTrue(String what, boolean is) {
        due(what, is ? 1 : 0, 1);
    }

    /** Writes a text on THE PAGE; how many letters THE PAGE has then. */
    static int write(MirrorClerks x, String text) {
        int letters = x.count(8);
        for (int i = 0; i < text.length(); i++) {
            letters = x.letter(text.charAt(i));
        }
        return letters;
    }

    static MirrorClerks houseOf(String text) {
        MirrorClerks x = new MirrorClerks();
        write(x, text);
        if (x.house() < 0) {
            isTrue("a house is read from " + text, false);
        }
        return x;
    }

    /** A call by its name. */
    static long ask(MirrorClerks x, String call, int... a) {
        switch (call) {
            case "letter": return x.letter(a[0]);
            case "blank": return x.blank();
            case "fault": return x.fault();
            case "house": return x.house();
            case "cell": return x.cell(a[0], a[1]);
            case "as": return x.as(a[0], a[1]);
            case "dusk": return x.dusk(a[0] != 0);
            case "clerk": return x.clerk(a[0], a[1]);
            case "look": return x.look(a[0], a[1]);
            case "clerkOf": return x.clerkOf(a[0], a[1]);
            case "person": return x.person(a[0]);
            case "personOf": return x.personOf(a[0], a[1]);
            case "step": return x.step(a[0], a[1]);
            case "walk": return x.walk(a[0], a[1], a[2]);
            case "post": return x.post(a[0]);
            case "tilt": return x.tilt(a[0], a[1]);
            case "ledger": return x.ledger(a[0]);
            case "forget": return x.forget();
            case "fits": return x.fits(a[0], a[1]);
            case "days": return x.days(a[0], a[1], a[2]);
            case "image": return x.image();
            case "restore": return x.restore();
            case "count": return x.count(a[0]);
            case "digest": return x.digest();
            default: throw new IllegalArgumentException(call);
        }
    }

    static String told(String call, int... a) {
        return call + Arrays.toString(a);
    }

    static void end(String test) {
        System.out.println(test + ": " + checks + " checks, " + wrong + " wrong");
        if (wrong != 0) {
            System.exit(1);
        }
    }
}
