/** What the tests have in common: they count wrong answers, and build houses from texts. */
final class Check {
    private static int checks = 0;
    private static int wrong = 0;

    private Check() {
    }

    static void due(String call, long got, long want) {
        checks++;
        if (got != want) {
            wrong++;
            System.out.println(call + " answered " + got + ", due is " + want);
        }
    }

    static void isTrue(String what, boolean is) {
        due(what, is ? 1 : 0, 1);
    }

    /** Writes a text on THE PAGE; how many letters THE PAGE has then. */
    static int write(MirrorClerks x, String text) {
        int letters = x.count(8);
        for (int i = 0; i < text.length(); i++) {
            letters = x.letter(text.charAt(i));
        }
        return letters;
    }

    static MirrorClerks houseOf(String text) {
        MirrorClerks x = new MirrorClerks();
        write(x, text);
        if (x.house() < 0) {
            isTrue("a house is read from " + text, false);
        }
        return x;
    }

    static void end(String test) {
        System.out.println(test + ": " + checks + " checks, " + wrong + " wrong");
        if (wrong != 0) {
            System.exit(1);
        }
    }
}
