/** Each promise by itself: ordinary inputs, the edges that the document names, wrong inputs. */
public final class PromisesTest {
    private static final int NONE = MirrorClerks.NONE, UNKNOWN = MirrorClerks.UNKNOWN,
        OUTSIDE = MirrorClerks.OUTSIDE, STATE = MirrorClerks.STATE, FULL = MirrorClerks.FULL;
    private static final int LEAST = Integer.MIN_VALUE, MOST = Integer.MAX_VALUE;
    private static final String OPEN = "....,....,....;9";
    private static final String WALLS = "####,####,####;1";

    public static void main(String[] args) {
        promise1NewObject();
        promise2Letter();
        promise3Blank();
        promise4Fault();
        promise5House();
        promise6Cell();
        promise7As();
        promise8Dusk();
        promise9Clerk();
        promise10Look();
        promise11ClerkOf();
        sightTurns();
        sightEnds();
        promise12Person();
        promise13PersonOf();
        promise14Step();
        promise15Walk();
        promise16Post();
        promise17Tilt();
        promise18Ledger();
        promise19Forget();
        promise20Fits();
        promise21Days();
        promise22Image();
        promise23Restore();
        promise24Count();
        promise25Digest();
        Check.end("PromisesTest");
    }

    private static void due(String call, long got, long want) {
        Check.due(call, got, want);
    }

    private static void promise1NewObject() {
        MirrorClerks x = new MirrorClerks();
        for (int what = 0; what <= 10; what++) {
            due("1: count(" + what + ") of a new object", x.count(what), 0);
        }
        due("1: cell", x.cell(0, 0), UNKNOWN);
        due("1: as", x.as(0, 0), UNKNOWN);
        due("1: dusk", x.dusk(true), STATE);
        due("1: clerk", x.clerk(0, 0), UNKNOWN);
        due("1: look", x.look(0, 0), UNKNOWN);
        due("1: clerkOf", x.clerkOf(0, 0), UNKNOWN);
        due("1: person", x.person(0), UNKNOWN);
        due("1: personOf", x.personOf(0, 0), UNKNOWN);
        due("1: step", x.step(0, 0), UNKNOWN);
        due("1: walk", x.walk(0, 0, 0), UNKNOWN);
        due("1: post", x.post(0), STATE);
        due("1: tilt", x.tilt(0, 0), UNKNOWN);
        due("1: fits", x.fits(0, 0), UNKNOWN);
        due("1: days", x.days(1, 0, 0), STATE);
        due("1: image", x.image(), STATE);
        due("1: restore", x.restore(), STATE);
        due("1: house", x.house(), STATE);
        due("1: fault", x.fault(), 0);
        due("1: blank", x.blank(), 0);
        due("1: forget", x.forget(), 0);
        due("1: two objects are apart", Check.houseOf(OPEN).count(1), 12);
        due("1: two objects are apart", x.count(9), 0);
    }

    private static void promise2Letter() {
        MirrorClerks x = new MirrorClerks();
        due("2: the least code", x.letter(1), 1);
        due("2: the greatest code", x.letter(126), 2);
        for (int code : new int[] {0, -1, 127, 128, LEAST, MOST}) {
            due("2: letter(" + code + ")", x.letter(code), OUTSIDE);
        }
        for (int letters = 3; letters <= 18; letters++) {
            due("2: one more letter", x.letter('.'), letters);
        }
        due("2: above 18", x.letter('.'), FULL);
        due("2: OUTSIDE ahead of FULL", x.letter(127), OUTSIDE);
        due("2: refusals change nothing", x.count(8), 18);
        due("2: refusals change nothing", x.fault(), 0);
    }

    private static void promise3Blank() {
        MirrorClerks x = new MirrorClerks();
        due("3: of an empty page", x.blank(), 0);
        Check.write(x, "....,");
        due("3: blank", x.blank(), 5);
        due("3: the page is empty", x.count(8), 0);
        due("3: the page is empty", x.blank(), 0);
        due("3: a letter comes first again", x.letter('#'), 1);
        due("3: what was is gone", x.fault(), 1);
        Check.write(x, ".................");
        due("3: a full page", x.blank(), 18);
        due("3: the house stays", blankBesideAHouse(), 12);
    }

    private static int blankBesideAHouse() {
        MirrorClerks x = Check.houseOf(OPEN);
        x.letter('.');
        x.blank();
        return x.count(1);
    }

    private static void promise4Fault() {
        String[] pages = {
            "", "x", ".", ".#mb", ".#mb.", ".#mb,", ".#mb;", ",", ".x..", "....,....,....;", "....,....,....;0",
            "....,....,....;1", "....,....,....;9", "....,....,....;:", "....,....,....;9.", "....,....,....;99",
            "....,....;....,9", "....,....,....,9", "....;....,....;9", "fwv#,mb..,M", "....,....,....;/",
            "....,.,..", ".m\t", "....,....,...;9", "1"};
        int[] places = {
            0, 0, 1, 4, 4, 5, 4, 0, 1, 15, 15, 16, 16, 15, 16, 16, 9, 14, 4, 10, 15, 6, 2, 13, 0};
        for (int i = 0; i < pages.length; i++) {
            MirrorClerks x = new MirrorClerks();
            Check.write(x, pages[i]);
            due("4: fault of '" + pages[i] + "'", x.fault(), places[i]);
            due("4: the page stays", x.count(8), pages[i].length());
        }
        MirrorClerks every = new MirrorClerks();
        for (int code = 1; code <= 126; code++) {
            every.blank();
            every.letter(code);
            due("4: a first letter " + code, every.fault(), ".#mbfwv".indexOf((char) code) >= 0 ? 1 : 0);
        }
    }

    private static void promise5House() {
        String[] none = {
            "", "....", "....,....,....;", "....,....,....;0", "....,....,....;9.", "....,....,..x.;9",
            "........,....;99", "....,....,....,9"};
        for (String text : none) {
            MirrorClerks x = new MirrorClerks();
            Check.write(x, text);
            due("5: house of '" + text + "'", x.house(), STATE);
            due("5: the page stays", x.blank(), text.length());
            due("5: no house is counted", x.count(9), 0);
        }
        MirrorClerks x = new MirrorClerks();
        Check.write(x, ".#mb,fwv.,....;7");
        due("5: house", x.house(), 6);
        due("5: the page is empty", x.count(8), 0);
        due("5: DEPTH", x.count(0), 7);
        for (int cell = 0; cell < 12; cell++) {
            due("5: sign of " + cell, x.cell(cell, 0), ".#mbfwv.....".charAt(cell) == '.' ? 0 : cell);
        }
        due("5: an empty page is none", x.house(), STATE);
        due("5: the old one stays", x.count(1), 6);
        anotherHouse();
        due("5: no FLOOR", Check.houseOf(WALLS).count(1), 0);
        ledgerAheadOfAHouse();
    }

    private static void anotherHouse() {
        MirrorClerks x = Check.houseOf(OPEN);
        x.clerk(0, 0);
        x.person(0);
        x.step(0, 0);
        x.ledger(1);
        x.dusk(true);
        x.image();
        x.tilt(0, 0);
        Check.write(x, "####,####,###.;2");
        due("5: another house", x.house(), 1);
        int[] counts = {2, 1, 0, 0, 0, 0, 0, 0, 0, 2, 1};
        for (int what = 0; what < counts.length; what++) {
            due("5: count(" + what + ") of another house", x.count(what), counts[what]);
        }
        due("5: the IMAGE is of a house that is gone", x.restore(), STATE);
        due("5: a PERSON anew", x.person(11), 0);
        due("5: ENTERED anew", x.personOf(0, 1), 0);
        due("5: a CLERK anew", x.clerk(11, 3), 0);
    }

    private static void ledgerAheadOfAHouse() {
        MirrorClerks x = new MirrorClerks();
        x.ledger(1);
        Check.write(x, OPEN);
        x.house();
        due("5: the LEDGER is gone with a first house, too", x.count(7), 0);
    }

    private static void promise6Cell() {
        MirrorClerks x = Check.houseOf(".#mb,fwv.,....;9");
        int[] signs = {0, 1, 2, 3, 4, 5, 6, 0, 0, 0, 0, 0};
        for (int cell = 0; cell < signs.length; cell++) {
            due("6: cell(" + cell + ", 0)", x.cell(cell, 0), signs[cell]);
        }
        for (int cell : new int[] {-1, 12, LEAST, MOST}) {
            due("6: cell(" + cell + ", 9)", x.cell(cell, 9), UNKNOWN);
        }
        for (int what : new int[] {-1, 4, LEAST, MOST}) {
            due("6: cell(0, " + what + ")", x.cell(0, what), OUTSIDE);
        }
        MirrorClerks y = Check.houseOf("..m.,....,.f..;9");
        y.clerk(0, 0);
        y.clerk(5, 1);
        y.clerk(10, 3);
        due("6: seen by none", y.cell(11, 1), 0);
        due("6: SEEN by two", y.cell(1, 1), 3);
        due("6: LEFT for right by one of them", y.cell(1, 2), 2);
        due("6: a FLOOR to which SIGHT comes back", y.cell(5, 1), 2);
        due("6: LEFT for right there", y.cell(5, 2), 2);
        due("6: a MIRROR is not SEEN", y.cell(2, 1), 0);
        due("6: a MIRROR is not LEFT for right", y.cell(2, 2), 0);
        due("6: SEEN by the last", y.cell(6, 1), 4);
        due("6: not LEFT for right", y.cell(6, 2), 0);
        due("6: LEFT for right by the last", y.cell(3, 2), 4);
        due("6: nobody there", y.cell(6, 3), 0);
        y.person(6);
        y.person(6);
        y.person(7);
        due("6: how many PEOPLE", y.cell(6, 3), 2);
        due("6: how many PEOPLE", y.cell(7, 3), 1);
        leftForRightAtFirst();
    }

    /** What comes to a CELL again by an even number of TURNS stays LEFT for right, and the other way about. */
    private static void leftForRightAtFirst() {
        MirrorClerks x = Check.houseOf("f..f,####,####;9");
        x.clerk(1, 0);
        due("6: first ahead of any TURN", x.cell(2, 2), 0);
        due("6: first by one TURN", x.cell(1, 2), 1);
        due("6: all is SEEN", x.clerkOf(0, 2), 6);
        due("6: TURNS to the DEPTH", x.clerkOf(0, 3), 9);
    }

    private static void promise7As() {
        MirrorClerks x = Check.houseOf("mbfw,v.#.,....;9");
        boolean[][] is = {
            {true, false, false, false, false}, {true, true, false, false, false}, {true, false, true, false, false},
            {true, false, true, true, false}, {true, false, false, false, true}};
        for (int cell = 0; cell < 5; cell++) {
            for (int kind = 0; kind < 5; kind++) {
                due("7: as(" + cell + ", " + kind + ")", x.as(cell, kind), is[cell][kind] ? cell : NONE);
            }
            for (int kind : new int[] {-1, 5, LEAST, MOST}) {
                due("7: as(" + cell + ", " + kind + ")", x.as(cell, kind), OUTSIDE);
            }
        }
        for (int cell : new int[] {5, 6, -1, 12, LEAST, MOST}) {
            due("7: as(" + cell + ", 0)", x.as(cell, 0), UNKNOWN);
            due("7: as(" + cell + ", 9)", x.as(cell, 9), UNKNOWN);
        }
        x.dusk(true);
        due("7: at DUSK a WINDOW stays one", x.as(3, 3), 3);
    }

    private static void promise8Dusk() {
        MirrorClerks x = Check.houseOf(".w..,####,####;9");
        x.clerk(0, 0);
        due("8: a WINDOW lets through", x.clerkOf(0, 2), 12);
        due("8: no TURN", x.clerkOf(0, 3), 0);
        due("8: it was not", x.dusk(true), 0);
        due("8: it was", x.dusk(true), 1);
        due("8: it is DUSK", x.count(3), 1);
        due("8: a WINDOW is as a FLAT one", x.clerkOf(0, 2), 1);
        due("8: a TURN", x.clerkOf(0, 3), 1);
        due("8: it was", x.dusk(false), 1);
        due("8: it was not", x.dusk(false), 0);
        due("8: a WINDOW lets through again", x.clerkOf(0, 2), 12);
    }

    private static void promise9Clerk() {
        MirrorClerks x = Check.houseOf("....,.#m.,....;9");
        due("9: a CELL that is none", x.clerk(12, 9), UNKNOWN);
        due("9: a CELL that is none", x.clerk(-1, 0), UNKNOWN);
        due("9: a CELL that is none", x.clerk(LEAST, 0), UNKNOWN);
        due("9: a WAY that is none", x.clerk(5, 4), OUTSIDE);
        due("9: a WAY that is none", x.clerk(0, -1), OUTSIDE);
        due("9: a WAY that is none", x.clerk(0, MOST), OUTSIDE);
        due("9: a WALL", x.clerk(5, 0), STATE);
        due("9: a MIRROR", x.clerk(6, 0), STATE);
        due("9: refusals change nothing", x.count(4), 0);
        due("9: the first", x.clerk(0, 0), 0);
        due("9: the second, there too", x.clerk(0, 3), 1);
        due("9: the third", x.clerk(11, 2), 2);
        due("9: FULL", x.clerk(1, 0), FULL);
        due("9: STATE ahead of FULL", x.clerk(5, 0), STATE);
        due("9: OUTSIDE ahead of FULL", x.clerk(0, 7), OUTSIDE);
        due("9: UNKNOWN ahead of FULL", x.clerk(99, 0), UNKNOWN);
        due("9: three", x.count(4), 3);
        due("9: where", x.clerkOf(2, 0), 11);
        due("9: which WAY", x.clerkOf(1, 1), 3);
    }

    private static void promise10Look() {
        MirrorClerks x = Check.houseOf(OPEN);
        x.clerk(5, 2);
        due("10: looks another WAY", x.look(0, 1), 2);
        due("10: which one he did", x.look(0, 1), 1);
        due("10: his SIGHT is another", x.clerkOf(0, 2), 1 << 9);
        for (int clerk : new int[] {1, -1, 3, LEAST, MOST}) {
            due("10: look(" + clerk + ", 0)", x.look(clerk, 0), UNKNOWN);
            due("10: look(" + clerk + ", 4)", x.look(clerk, 4), UNKNOWN);
        }
        for (int way : new int[] {-1, 4, LEAST, MOST}) {
            due("10: look(0, " + way + ")", x.look(0, way), OUTSIDE);
        }
        due("10: refusals change nothing", x.clerkOf(0, 1), 1);
    }

    private static void promise11ClerkOf() {
        MirrorClerks x = Check.houseOf(".m..,.b..,.m..;9");
        x.clerk(8, 0);
        x.clerk(2, 2);
        int[] first = {8, 0, 0x10, 2};
        int[] second = {2, 2, 0xc0, 2};
        for (int what = 0; what < 4; what++) {
            due("11: clerkOf(0, " + what + ")", x.clerkOf(0, what), first[what]);
            due("11: clerkOf(1, " + what + ")", x.clerkOf(1, what), second[what]);
        }
        for (int clerk : new int[] {2, -1, LEAST, MOST}) {
            due("11: clerkOf(" + clerk + ", 4)", x.clerkOf(clerk, 4), UNKNOWN);
        }
        for (int what : new int[] {-1, 4, LEAST, MOST}) {
            due("11: clerkOf(0, " + what + ")", x.clerkOf(0, what), OUTSIDE);
        }
    }

    /** By each sign on CELL 5, from each side: where SIGHT leaves, by its first FLOOR. */
    private static void sightTurns() {
        String signs = "mbfw";
        int[] from = {4, 1, 6, 9};
        int[][] to = {{1, 4, 9, 6}, {9, 6, 1, 4}, {4, 1, 6, 9}, {6, 9, 4, 1}};
        for (int sign = 0; sign < signs.length(); sign++) {
            for (int way = 0; way < 4; way++) {
                MirrorClerks x = Check.houseOf("#.##,." + signs.charAt(sign) + ".#,#.##;1");
                x.clerk(from[way], way);
                due("sight by " + signs.charAt(sign) + " by way " + way, x.clerkOf(0, 2), 1 << to[sign][way]);
                due("TURNS by " + signs.charAt(sign), x.clerkOf(0, 3), sign == 3 ? 0 : 1);
                due("LEFT for right by " + signs.charAt(sign), x.cell(to[sign][way], 2), sign == 3 ? 0 : 1);
                x.dusk(true);
                due("sight at DUSK", x.clerkOf(0, 2), 1 << (sign == 3 ? from[way] : to[sign][way]));
                due("TURNS at DUSK", x.clerkOf(0, 3), 1);
            }
        }
    }

    private static void sightEnds() {
        MirrorClerks veil = Check.houseOf("..v.,....,....;9");
        veil.clerk(0, 0);
        due("at a VEIL it ends", veil.clerkOf(0, 2), 2);
        due("at a VEIL there is no TURN", veil.clerkOf(0, 3), 0);
        MirrorClerks wall = Check.houseOf("..#.,....,....;9");
        wall.clerk(0, 0);
        due("at a WALL it ends", wall.clerkOf(0, 2), 2);
        int[][] edges = {{3, 0}, {11, 0}, {8, 1}, {11, 1}, {0, 2}, {4, 2}, {0, 3}, {3, 3}};
        for (int[] edge : edges) {
            MirrorClerks x = Check.houseOf(OPEN);
            x.clerk(edge[0], edge[1]);
            due("where there is no CELL it ends", x.clerkOf(0, 2), 0);
        }
        for (int depth = 1; depth <= 9; depth++) {
            MirrorClerks x = Check.houseOf(".f##,f.f#,####;" + depth);
            x.clerk(5, 0);
            due("TURNS no more often than DEPTH", x.clerkOf(0, 3), depth);
            due("comes back to the first FLOOR", x.clerkOf(0, 2), 1 << 5);
        }
        // Right to 2, there down to 6, there left to 4, there down: each corner needs one TURN more.
        int[] seen = {0x2, 0x22, 0x122, 0x122};
        for (int depth = 1; depth <= 4; depth++) {
            MirrorClerks x = Check.houseOf("..b#,m.m#,....;" + depth);
            x.clerk(0, 0);
            due("as deep as DEPTH " + depth, x.clerkOf(0, 3), Math.min(depth, 3));
            due("SEEN by DEPTH " + depth, x.clerkOf(0, 2), seen[depth - 1]);
        }
    }

    private static void promise12Person() {
        MirrorClerks x = Check.houseOf("....,.#m.,....;9");
        for (int cell : new int[] {12, -1, LEAST, MOST}) {
            due("12: person(" + cell + ")", x.person(cell), UNKNOWN);
        }
        due("12: a WALL", x.person(5), STATE);
        due("12: a MIRROR", x.person(6), STATE);
        due("12: refusals change nothing", x.count(5), 0);
        x.clerk(0, 0);
        due("12: the first", x.person(1), 0);
        due("12: he is not ENTERED as he comes", x.personOf(0, 1), 0);
        due("12: the second, there too", x.person(1), 1);
        due("12: the third", x.person(11), 2);
        due("12: FULL", x.person(0), FULL);
        due("12: STATE ahead of FULL", x.person(5), STATE);
        due("12: UNKNOWN ahead of FULL", x.person(12), UNKNOWN);
        due("12: three", x.count(5), 3);
    }

    private static void promise13PersonOf() {
        MirrorClerks x = Check.houseOf(OPEN);
        x.clerk(4, 0);
        x.person(4);
        x.person(11);
        x.step(0, 0);
        x.step(0, 0);
        due("13: his CELL", x.personOf(0, 0), 6);
        due("13: how often ENTERED", x.personOf(0, 1), 2);
        due("13: his CELL", x.personOf(1, 0), 11);
        due("13: how often ENTERED", x.personOf(1, 1), 0);
        for (int person : new int[] {2, -1, LEAST, MOST}) {
            due("13: personOf(" + person + ", 2)", x.personOf(person, 2), UNKNOWN);
        }
        for (int what : new int[] {-1, 2, LEAST, MOST}) {
            due("13: personOf(0, " + what + ")", x.personOf(0, what), OUTSIDE);
        }
    }

    private static void promise14Step() {
        MirrorClerks x = Check.houseOf("....,....,..m#;9");
        x.clerk(4, 0);
        x.clerk(1, 1);
        x.person(0);
        due("14: right", x.step(0, 0), 1);
        due("14: not SEEN, not ENTERED", x.personOf(0, 1), 0);
        due("14: down", x.step(0, 1), 5);
        due("14: ENTERED once by two CLERKS", x.personOf(0, 1), 1);
        due("14: left", x.step(0, 2), 4);
        due("14: up", x.step(0, 3), 0);
        due("14: no CELL", x.step(0, 2), STATE);
        due("14: no CELL", x.step(0, 3), STATE);
        due("14: refusals change nothing", x.personOf(0, 0), 0);
        due("14: ENTERED still once", x.personOf(0, 1), 1);
        x.person(11 - 4);
        due("14: a WALL", x.step(1, 1), STATE);
        due("14: no CELL behind the row", x.step(1, 0), STATE);
        x.step(1, 2);
        due("14: ENTERED by one CLERK", x.personOf(1, 1), 1);
        due("14: a MIRROR", x.step(1, 1), STATE);
        for (int person : new int[] {2, -1, LEAST, MOST}) {
            due("14: step(" + person + ", 4)", x.step(person, 4), UNKNOWN);
        }
        for (int way : new int[] {-1, 4, LEAST, MOST}) {
            due("14: step(0, " + way + ")", x.step(0, way), OUTSIDE);
        }
    }

    private static void promise15Walk() {
        MirrorClerks x = Check.houseOf("....,....,....;9");
        x.clerk(4, 0);
        x.person(0);
        walked(x, 0, 0, 0, 0, NONE);
        walked(x, 0, 3, 0, 3, 0);
        walked(x, 0, 10, 0, 4, 1);
        walked(x, 0, 8, 0, 2, 1);
        walked(x, 0, 7, 1, 4, 0);
        MirrorClerks like = Check.houseOf(OPEN);
        like.person(5);
        walked(like, 0, 10, 0, 2, 0);
        walked(like, 0, 8, 0, 2, 1);
        walked(like, 0, 0, 0, 2, 2);
        walked(like, 0, 1, 0, 1, 3);
        MirrorClerks around = Check.houseOf("....,.#.#,....;9");
        around.person(4);
        around.clerk(4, 3);
        walked(around, 0, 10, 0, 3, 1);
        around.look(0, 1);
        // The longer way about, as the shorter one is SEEN at 8: 0, 1, 2, 6, 10.
        walked(around, 0, 10, 0, 5, 3);
        around.clerk(3, 2);
        walked(around, 0, 10, 1, 3, 1);
        walked(around, 0, 4, 0, 0, NONE);
        MirrorClerks apart = Check.houseOf(".#..,##..,....;9");
        apart.person(0);
        walked(apart, 0, 3, NONE, NONE, NONE);
        walked(apart, 0, 0, 0, 0, NONE);
        due("15: a WALL", apart.walk(0, 1, 0), STATE);
        due("15: OUTSIDE ahead of STATE", apart.walk(0, 1, 3), OUTSIDE);
        for (int what : new int[] {-1, 3, LEAST, MOST}) {
            due("15: what " + what, apart.walk(0, 3, what), OUTSIDE);
        }
        for (int person : new int[] {1, -1, LEAST, MOST}) {
            due("15: person " + person, apart.walk(person, 3, 3), UNKNOWN);
        }
        for (int cell : new int[] {12, -1, LEAST, MOST}) {
            due("15: cell " + cell, apart.walk(0, cell, 3), UNKNOWN);
        }
        due("15: he stays where he is", around.personOf(0, 0), 4);
        due("15: he is not ENTERED by it", around.personOf(0, 1), 0);
    }

    private static void walked(MirrorClerks x, int person, int cell, int entered, int steps, int way) {
        due("15: walk to " + cell + ", ENTERED", x.walk(person, cell, 0), entered);
        due("15: walk to " + cell + ", STEPS", x.walk(person, cell, 1), steps);
        due("15: walk to " + cell + ", the first WAY", x.walk(person, cell, 2), way);
    }

    private static void promise16Post() {
        MirrorClerks x = Check.houseOf(OPEN);
        due("16: of like ones the least", x.post(0), 0);
        due("16: how many FLOORS", x.post(1), 3);
        x.clerk(0, 0);
        due("16: beside another CLERK", x.post(0), 4 * 4);
        due("16: how many FLOORS by both", x.post(1), 6);
        MirrorClerks turned = Check.houseOf("..b#,.#.#,.#.#;9");
        due("16: by a MIRROR", turned.post(0), 0);
        due("16: by a MIRROR", turned.post(1), 3);
        MirrorClerks way = Check.houseOf("####,#.##,#.##;9");
        due("16: the WAY, too", way.post(0), 4 * 5 + 1);
        due("16: one FLOOR", way.post(1), 1);
        MirrorClerks full = Check.houseOf(OPEN);
        full.clerk(0, 0);
        full.clerk(4, 0);
        full.clerk(8, 0);
        due("16: with three CLERKS, too", full.post(1), 11);
        due("16: with three CLERKS, too", full.post(0), 1);
        MirrorClerks alone = Check.houseOf("####,##.#,####;9");
        due("16: a FLOOR from which none is SEEN", alone.post(0), 4 * 6);
        due("16: none is SEEN", alone.post(1), 0);
        MirrorClerks walls = Check.houseOf(WALLS);
        due("16: no FLOOR", walls.post(0), NONE);
        due("16: no FLOOR", walls.post(1), 0);
        for (int what : new int[] {-1, 2, LEAST, MOST}) {
            due("16: post(" + what + ")", x.post(what), OUTSIDE);
            due("16: OUTSIDE ahead of STATE", new MirrorClerks().post(what), OUTSIDE);
        }
        due("16: no HOUSE", new MirrorClerks().post(1), STATE);
        due("16: no CLERK is there by it", x.count(4), 1);
    }

    private static void promise17Tilt() {
        MirrorClerks x = Check.houseOf("..m#,###.,....;9");
        x.clerk(0, 0);
        due("17: SEEN as it is", x.tilt(1, 0), 0);
        due("17: none of them", x.tilt(1, 1), 0);
        due("17: no way", x.tilt(11, 0), NONE);
        due("17: no way", x.tilt(11, 1), NONE);
        MirrorClerks one = Check.houseOf("..m#,##.#,##.#;9");
        one.clerk(0, 0);
        due("17: one", one.tilt(10, 0), 1);
        due("17: that one", one.tilt(10, 1), 4);
        due("17: it is not done", one.cell(2, 0), 2);
        MirrorClerks back = Check.houseOf("b.##,.###,####;9");
        back.clerk(1, 2);
        due("17: a BACK one", back.tilt(4, 0), 1);
        due("17: that one", back.tilt(4, 1), 1);
        MirrorClerks two = Check.houseOf(".m##,#m.#,##m.;9");
        two.clerk(0, 0);
        due("17: two", two.tilt(6, 0), 2);
        due("17: both", two.tilt(6, 1), 0x22);
        two.clerk(11, 2);
        due("17: fewer", two.tilt(6, 0), 1);
        due("17: fewer ahead of least", two.tilt(6, 1), 0x400);
        MirrorClerks flat = Check.houseOf(".fwv,.###,####;9");
        flat.clerk(0, 0);
        due("17: no other MIRRORS", flat.tilt(4, 0), NONE);
        MirrorClerks least = Check.houseOf(".m##,.m##,#.##;9");
        least.clerk(0, 0);
        least.clerk(4, 0);
        due("17: of like ones", least.tilt(9, 0), 1);
        due("17: the least bits", least.tilt(9, 1), 1 << 5);
        due("17: without a CLERK", Check.houseOf(OPEN).tilt(0, 0), NONE);
        tiltRefusals();
        tiltTwentyTimes();
    }

    private static void tiltRefusals() {
        MirrorClerks x = Check.houseOf(".#m.,....,....;9");
        for (int cell : new int[] {12, -1, LEAST, MOST}) {
            due("17: tilt(" + cell + ", 2)", x.tilt(cell, 2), UNKNOWN);
        }
        for (int what : new int[] {-1, 2, LEAST, MOST}) {
            due("17: tilt(1, " + what + ")", x.tilt(1, what), OUTSIDE);
        }
        due("17: a WALL", x.tilt(1, 0), STATE);
        due("17: a MIRROR", x.tilt(2, 0), STATE);
        due("17: refusals do not count", x.count(10), 0);
    }

    private static void tiltTwentyTimes() {
        MirrorClerks x = Check.houseOf(OPEN);
        x.clerk(0, 0);
        x.image();
        for (int times = 1; times <= 10; times++) {
            x.tilt(1, 0);
            x.tilt(11, 1);
            due("17: how often it was done", x.count(10), 2 * times);
        }
        due("17: done 20 times", x.tilt(1, 0), STATE);
        due("17: UNKNOWN ahead of it", x.tilt(12, 0), UNKNOWN);
        due("17: OUTSIDE ahead of it", x.tilt(1, 2), OUTSIDE);
        x.restore();
        due("17: ever: behind restore(), too", x.tilt(1, 0), STATE);
        Check.write(x, OPEN);
        x.house();
        due("17: ever: in another HOUSE, too", x.tilt(1, 0), STATE);
        due("17: how often it was done", x.count(10), 20);
    }

    private static void promise18Ledger() {
        MirrorClerks x = new MirrorClerks();
        for (int told : new int[] {-2, 2, LEAST, MOST}) {
            due("18: ledger(" + told + ")", x.ledger(told), OUTSIDE);
        }
        int[] told = {1, 0, -1, 1, 0, -1, 1, 0};
        for (int step = 0; step < 8; step++) {
            due("18: ledger(" + told[step] + ")", x.ledger(told[step]), step + 1);
        }
        due("18: FULL", x.ledger(0), FULL);
        due("18: OUTSIDE ahead of FULL", x.ledger(2), OUTSIDE);
        due("18: refusals change nothing", x.count(7), 8);
    }

    private static void promise19Forget() {
        MirrorClerks x = Check.houseOf(OPEN);
        due("19: of an empty one", x.forget(), 0);
        x.person(0);
        x.ledger(1);
        x.ledger(0);
        due("19: forget", x.forget(), 2);
        due("19: it is empty", x.count(7), 0);
        due("19: it is empty", x.fits(0, 0), 1);
        due("19: its next STEP is the first", x.ledger(0), 1);
        due("19: its first STEP anew", x.fits(0, 0), 2);
    }

    private static void promise20Fits() {
        MirrorClerks x = Check.houseOf(OPEN);
        x.clerk(4, 0);
        x.person(0);
        x.person(5);
        due("20: no STEPS: one row", x.fits(0, 0), 1);
        due("20: no STEPS: where he is", x.fits(0, 1), 1);
        x.ledger(0);
        due("20: not ENTERED", x.fits(0, 0), 2);
        due("20: not ENTERED", x.fits(0, 1), 0x12);
        due("20: another one", x.fits(1, 1), 0x212);
        x.ledger(1);
        due("20: then ENTERED", x.fits(0, 0), 2);
        due("20: then ENTERED", x.fits(0, 1), 0x20);
        x.ledger(NONE);
        due("20: then nothing is told", x.fits(0, 0), 8);
        due("20: then nothing is told", x.fits(0, 1), 0x252);
        x.forget();
        for (int step = 0; step < 8; step++) {
            x.ledger(NONE);
        }
        due("20: eight STEPS anywhere", x.fits(0, 0), 4426);
        due("20: on which CELLS", x.fits(0, 1), 1445);
        MirrorClerks alone = Check.houseOf(".###,####,####;9");
        alone.person(0);
        alone.ledger(NONE);
        due("20: no row", alone.fits(0, 0), 0);
        due("20: no end", alone.fits(0, 1), 0);
        for (int person : new int[] {2, -1, LEAST, MOST}) {
            due("20: fits(" + person + ", 2)", x.fits(person, 2), UNKNOWN);
        }
        for (int what : new int[] {-1, 2, LEAST, MOST}) {
            due("20: fits(0, " + what + ")", x.fits(0, what), OUTSIDE);
        }
    }

    private static void promise21Days() {
        MirrorClerks x = Check.houseOf(OPEN);
        due("21: nobody: how often", x.days(60, 5, 0), 0);
        due("21: nobody: where", x.days(60, 5, 1), NONE);
        due("21: nobody: no DRAW", x.days(60, 5, 2), 5);
        x.person(5);
        // Behind SEED 2 the DRAWS are 0, 1, 3, 2.
        int[] seeds = {59559187, 1495354192, 671064393, 846338638};
        int[] cells = {6, 10, 6, 5};
        int[] entries = {1, 1, 2, 3};
        for (int times = 1; times <= 4; times++) {
            due("21: the SEED after " + times, x.days(times, 2, 2), seeds[times - 1]);
            due("21: the CELL after " + times, x.days(times, 2, 1), cells[times - 1]);
            due("21: no CLERK, not ENTERED", x.days(times, 2, 0), 0);
        }
        x.clerk(4, 0);
        for (int times = 1; times <= 4; times++) {
            due("21: ENTERED after " + times, x.days(times, 2, 0), entries[times - 1]);
        }
        x.person(2);
        due("21: each by number, a DRAW each", x.days(2, 2, 2), seeds[3]);
        due("21: PERSON 0 by the first DRAW and the third", x.days(2, 2, 1), 2);
        due("21: the other one by the second and the fourth", x.days(2, 2, 0), 3);
        due("21: they stay where they are", x.personOf(0, 0), 5);
        due("21: they are not ENTERED by it", x.count(6), 0);
        MirrorClerks alone = Check.houseOf(".###,####,####;9");
        alone.person(0);
        due("21: no FLOOR: there he stays", alone.days(60, 1, 1), 0);
        due("21: a DRAW all the same", alone.days(1, 0, 2), 12345);
        due("21: the greatest SEED", alone.days(1, MOST, 2), (1103515245L * MOST + 12345) % (1L << 31));
        daysRefusals(x);
    }

    private static void daysRefusals(MirrorClerks x) {
        for (int times : new int[] {0, 61, -1, LEAST, MOST}) {
            due("21: times " + times, x.days(times, 0, 0), OUTSIDE);
        }
        for (int seed : new int[] {-1, LEAST}) {
            due("21: seed " + seed, x.days(1, seed, 0), OUTSIDE);
        }
        for (int what : new int[] {-1, 3, LEAST, MOST}) {
            due("21: what " + what, x.days(1, 0, what), OUTSIDE);
            due("21: OUTSIDE ahead of STATE", new MirrorClerks().days(1, 0, what), OUTSIDE);
        }
        due("21: no HOUSE", new MirrorClerks().days(60, MOST, 2), STATE);
    }

    private static void promise22Image() {
        due("22: no HOUSE", new MirrorClerks().image(), STATE);
        MirrorClerks x = Check.houseOf(OPEN);
        due("22: nobody", x.image(), 0);
        x.clerk(4, 0);
        x.person(4);
        x.person(7);
        x.step(0, 0);
        x.step(1, 2);
        due("22: how often all were ENTERED", x.image(), 2);
        x.step(0, 0);
        due("22: the latest", x.image(), 3);
        x.step(0, 0);
        due("22: from the latest", x.restore(), 3);
        due("22: from the latest", x.personOf(0, 0), 6);
    }

    private static void promise23Restore() {
        MirrorClerks x = Check.houseOf("....,..w.,....;9");
        due("23: none was kept", x.restore(), STATE);
        x.clerk(4, 0);
        x.person(4);
        x.step(0, 0);
        x.ledger(1);
        x.ledger(0);
        x.dusk(true);
        x.image();
        long digest = x.digest();
        x.dusk(false);
        x.look(0, 1);
        x.step(0, 1);
        x.step(0, 3);
        x.step(0, 0);
        x.clerk(0, 0);
        x.person(0);
        x.step(1, 0);
        x.forget();
        x.ledger(NONE);
        Check.isTrue("23: all is another", x.digest() != digest);
        due("23: how often all were ENTERED", x.restore(), 1);
        due("23: all is as it was", x.digest(), digest);
        due("23: those since are gone", x.clerkOf(1, 0), UNKNOWN);
        due("23: those since are gone", x.personOf(1, 0), UNKNOWN);
        due("23: one more comes by the number", x.person(3), 1);
        due("23: not ENTERED yet", x.personOf(1, 1), 0);
        due("23: again", x.restore(), 1);
        due("23: again all is as it was", x.digest(), digest);
        x.letter('.');
        x.house();
        due("23: no other HOUSE by a refusal", x.restore(), 1);
        due("23: THE PAGE is not of the IMAGE", x.count(8), 1);
        x.blank();
        Check.write(x, "....,..w.,....;9");
        x.house();
        due("23: another HOUSE since", x.restore(), STATE);
        x.image();
        due("23: an IMAGE of this one", x.restore(), 0);
    }

    private static void promise24Count() {
        MirrorClerks x = Check.houseOf("....,.#m.,....;4");
        x.clerk(0, 0);
        x.clerk(4, 1);
        x.person(0);
        x.person(1);
        x.person(1);
        x.step(0, 0);
        x.step(1, 0);
        x.step(1, 0);
        x.step(2, 1);
        x.ledger(0);
        x.ledger(1);
        x.letter('x');
        x.letter('y');
        x.letter('z');
        x.dusk(true);
        x.tilt(0, 0);
        int[] counts = {4, 10, 4, 1, 2, 3, 3, 2, 3, 1, 1};
        for (int what = 0; what < counts.length; what++) {
            due("24: count(" + what + ")", x.count(what), counts[what]);
        }
        for (int what : new int[] {-1, 11, LEAST, MOST}) {
            due("24: count(" + what + ")", x.count(what), OUTSIDE);
        }
    }

    private static void promise25Digest() {
        MirrorClerks x = new MirrorClerks();
        due("25: without a HOUSE", x.digest(), digestByCalls(x, ""));
        Check.write(x, "~!");
        x.ledger(1);
        due("25: letters of THE PAGE", x.digest(), digestByCalls(x, "~!"));
        Check.isTrue("25: in their order", Check.write(x, "") == 2 && x.digest() != swapped().digest());
        MirrorClerks y = Check.houseOf("..m.,f..b,....;3");
        due("25: with a HOUSE", y.digest(), digestByCalls(y, ""));
        y.clerk(4 + 1, 1);
        y.clerk(0, 0);
        y.person(9);
        y.person(9);
        y.step(1, 0);
        y.ledger(NONE);
        y.ledger(1);
        Check.write(y, "mirror");
        due("25: with all", y.digest(), digestByCalls(y, "mirror"));
        y.dusk(true);
        y.tilt(0, 0);
        due("25: with a tilt", y.digest(), digestByCalls(y, "mirror"));
        due("25: it changes nothing", y.digest(), y.digest());
        due("25: of walls alone", Check.houseOf(WALLS).digest(), digestByCalls(Check.houseOf(WALLS), ""));
    }

    private static MirrorClerks swapped() {
        MirrorClerks x = new MirrorClerks();
        Check.write(x, "!~");
        x.ledger(1);
        return x;
    }

    private static long digestByCalls(MirrorClerks x, String page) {
        long h = 839;
        for (int cell = 0; x.count(0) != 0 && cell < 12; cell++) {
            for (int what = 0; what < 4; what++) {
                h = 31 * h + x.cell(cell, what);
            }
        }
        for (int what = 0; x.count(0) != 0 && what < 2; what++) {
            h = 31 * h + x.post(what);
        }
        for (int clerk = 0; clerk < x.count(4); clerk++) {
            for (int what = 0; what < 4; what++) {
                h = 31 * h + x.clerkOf(clerk, what);
            }
        }
        for (int person = 0; person < x.count(5); person++) {
            h = 31 * (31 * h + x.personOf(person, 0)) + x.personOf(person, 1);
            h = 31 * (31 * h + x.fits(person, 0)) + x.fits(person, 1);
        }
        for (char letter : page.toCharArray()) {
            h = 31 * h + letter;
        }
        for (int what = 0; what <= 10; what++) {
            h = 31 * h + x.count(what);
        }
        return h;
    }
}
