import java.util.function.Supplier;

/** Edges of promises 1 to 8, and of what Terms tell of a HOUSE. */
public final class HouseEdgesTest {
    private static final int NONE = MirrorClerks.NONE, UNKNOWN = MirrorClerks.UNKNOWN,
        OUTSIDE = MirrorClerks.OUTSIDE, STATE = MirrorClerks.STATE, FULL = MirrorClerks.FULL;
    private static final String MIRRORS = "mbfw,v.#.,...m;9";
    private static final String SIGNS = ".#mbfwv";

    public static void main(String[] args) throws ReflectiveOperationException {
        Edges.run(HouseEdgesTest.class);
    }

    // ---- 1

    @Edges.Of("1: No HOUSE.")
    static void aNewObjectHasNoHouse() {
        Edges.refused(Scenes::fresh, STATE, "dusk", 0);
        Edges.refused(Scenes::fresh, STATE, "dusk", 1);
        Edges.refused(Scenes::fresh, STATE, "house");
        Edges.refused(Scenes::fresh, STATE, "post", 0);
        Edges.refused(Scenes::fresh, STATE, "days", 1, 0, 0);
        Edges.refused(Scenes::fresh, STATE, "image");
        Edges.refused(Scenes::fresh, STATE, "restore");
        for (int what = 0; what <= 10; what++) {
            Edges.taken(Scenes::fresh, 0, "count", what);
        }
    }

    @Edges.Of("0: At first there is no HOUSE, no DUSK.")
    static void atFirstThereIsNoDusk() {
        Edges.taken(Scenes::fresh, 0, "count", 3);
        Edges.taken(Scenes::open, 0, "dusk", 1);
        Edges.taken(Scenes::open, 0, "count", 3);
    }

    // ---- 2

    @Edges.Of("2: OUTSIDE: code (1 to 126)")
    static void aLetterIsOfCode1To126() {
        Edges.taken(Scenes::fresh, 1, "letter", 1);
        Edges.taken(Scenes::fresh, 1, "letter", 126);
        for (int code : Edges.around(0, 127)) {
            Edges.refused(Scenes::fresh, OUTSIDE, "letter", code);
            Edges.refused(Scenes::busy, OUTSIDE, "letter", code);
        }
    }

    @Edges.Of("2: FULL: above 18.")
    static void aPageIsFullAbove18() {
        Edges.taken(() -> letters(17), 18, "letter", '.');
        Edges.refused(() -> letters(18), FULL, "letter", '.');
        Edges.refused(Scenes::full, FULL, "letter", 1);
        Edges.refused(Scenes::full, FULL, "letter", 126);
    }

    @Edges.Of("2: OUTSIDE: code (1 to 126); FULL: above 18.")
    static void aLetterOutsideComesAheadOfFull() {
        for (int code : Edges.around(0, 127)) {
            Edges.refused(Scenes::full, OUTSIDE, "letter", code);
        }
    }

    @Edges.Of("2: A letter comes behind THE PAGE, by its code: how many THE PAGE has.")
    static void lettersAreNumberedFrom1To18() {
        MirrorClerks x = new MirrorClerks();
        for (int letters = 1; letters <= 18; letters++) {
            Edges.due("one letter more", x.letter('.'), letters);
            Edges.due("count(8)", x.count(8), letters);
        }
    }

    private static MirrorClerks letters(int many) {
        return Scenes.page(".".repeat(many));
    }

    // ---- 3

    @Edges.Of("3: THE PAGE is empty: how many letters it had.")
    static void anEmptyPageAndAFullOneAreBlanked() {
        for (int many : new int[] {0, 1, 17, 18}) {
            MirrorClerks x = letters(many);
            Edges.due("blank()", x.blank(), many);
            Edges.due("count(8)", x.count(8), 0);
            Edges.due("blank() once more", x.blank(), 0);
            Edges.due("a letter then", x.letter('.'), 1);
        }
    }

    @Edges.Of("3: THE PAGE is empty")
    static void blankLeavesAllElse() {
        MirrorClerks x = Scenes.busyWithPage("");
        MirrorClerks y = Scenes.busyWithPage("......");
        y.blank();
        Edges.due("digest()", y.digest(), x.digest());
    }

    // ---- 4

    @Edges.Of("4: The place (from 0) of the first letter of THE PAGE that no HOUSE has there")
    static void aFaultIsFoundAtEachPlace() {
        for (int place = 0; place < 16; place++) {
            Edges.taken(faultyAt(place), place, "fault");
        }
    }

    @Edges.Of("4: the first letter of THE PAGE that no HOUSE has there, behind those ahead of it")
    static void ofTwoFaultsTheFirstIsTold() {
        for (int place = 0; place < 15; place++) {
            String text = withLetter(withLetter(Scenes.OPEN, 15, '0'), place, 'x');
            Edges.taken(() -> Scenes.page(text), place, "fault");
        }
    }

    @Edges.Of("4: how many letters it has, if there is none.")
    static void aPageWithoutAFaultTellsItsLetters() {
        for (int many = 0; many <= 16; many++) {
            String ahead = Scenes.EACH_SIGN.substring(0, many);
            Edges.taken(() -> Scenes.page(ahead), many, "fault");
        }
    }

    @Edges.Of("4: that no HOUSE has there, behind those ahead of it")
    static void noHouseHasA17thLetter() {
        for (String more : new String[] {".", "..", ";", ",", "9", "x"}) {
            Edges.taken(() -> Scenes.page(Scenes.OPEN + more), 16, "fault");
        }
    }

    @Edges.Of("0: three rows of four signs with \",\" between: \".\" a FLOOR, \"#\" a WALL, a MIRROR by its letter")
    static void eachLetterAtEachPlace() {
        for (int place = 0; place < 16; place++) {
            for (char code = 1; code <= 126; code++) {
                String text = Scenes.OPEN.substring(0, place) + code;
                Edges.taken(() -> Scenes.page(text), place + (isOfAHouse(place, code) ? 1 : 0), "fault");
            }
        }
    }

    private static boolean isOfAHouse(int place, char code) {
        String there = place == 15 ? "123456789" : place == 14 ? ";" : place == 4 || place == 9 ? "," : SIGNS;
        return there.indexOf(code) >= 0;
    }

    @Edges.Of("0: then \";\" and a digit DEPTH (1 to 9).")
    static void depthIs1To9() {
        for (char digit : new char[] {'0', '/', ':'}) {
            String text = withLetter(Scenes.OPEN, 15, digit);
            Edges.taken(() -> Scenes.page(text), 15, "fault");
            Edges.refused(() -> Scenes.page(text), STATE, "house");
        }
        for (int depth = 1; depth <= 9; depth++) {
            String text = "....,....,....;" + depth;
            Edges.taken(() -> Scenes.page(text), 16, "fault");
            Edges.taken(() -> Check.houseOf(text), depth, "count", 0);
        }
    }

    private static Supplier<MirrorClerks> faultyAt(int place) {
        return () -> Scenes.page(withLetter(Scenes.EACH_SIGN, place, 'x'));
    }

    private static String withLetter(String text, int place, char letter) {
        return text.substring(0, place) + letter + text.substring(place + 1);
    }

    // ---- 5

    @Edges.Of("5: STATE: it is none.")
    static void aPageTooShortIsNoHouse() {
        for (int many = 0; many < 16; many++) {
            String ahead = Scenes.OPEN.substring(0, many);
            Edges.refused(() -> Scenes.page(ahead), STATE, "house");
            Edges.refused(() -> Scenes.busyWithPage(ahead), STATE, "house");
        }
        Edges.taken(() -> Scenes.page(Scenes.OPEN), 12, "house");
    }

    @Edges.Of("5: STATE: it is none.")
    static void aPageTooLongIsNoHouse() {
        for (String more : new String[] {".", "9", "..", "99"}) {
            Edges.refused(() -> Scenes.page(Scenes.OPEN + more), STATE, "house");
            Edges.refused(() -> Scenes.busyWithPage(Scenes.OPEN + more), STATE, "house");
        }
    }

    @Edges.Of("5: STATE: it is none.")
    static void aPageWithAFaultIsNoHouse() {
        for (int place = 0; place < 16; place++) {
            String text = withLetter(Scenes.OPEN, place, 'x');
            Edges.refused(() -> Scenes.page(text), STATE, "house");
            Edges.refused(() -> Scenes.busyWithPage(text), STATE, "house");
        }
    }

    @Edges.Of("5: THE PAGE is read as THE HOUSE")
    static void aRefusedHouseLeavesThePage() {
        MirrorClerks x = Scenes.page("....,....,....;");
        x.house();
        Edges.due("the last letter comes yet", x.letter('9'), 16);
        Edges.due("and it is one", x.house(), 12);
    }

    @Edges.Of("5: how many FLOORS")
    static void aHouseHas0To12Floors() {
        Edges.taken(() -> Scenes.page(Scenes.WALLS), 0, "house");
        Edges.taken(() -> Scenes.page("mbfw,vvvv,####;9"), 0, "house");
        Edges.taken(() -> Scenes.page("####,####,###.;9"), 1, "house");
        Edges.taken(() -> Scenes.page(".###,####,####;9"), 1, "house");
        Edges.taken(() -> Scenes.page(Scenes.OPEN), 12, "house");
    }

    @Edges.Of("5: THE PAGE is empty then.")
    static void thePageIsEmptyBehindAHouse() {
        MirrorClerks x = Scenes.busyThenHouse(Scenes.OPEN);
        Edges.due("count(8)", x.count(8), 0);
        Edges.due("blank()", x.blank(), 0);
        Edges.due("house() once more", x.house(), STATE);
        Edges.due("a letter then", x.letter('.'), 1);
    }

    @Edges.Of("5: another one is gone, with all that was")
    static void clerksAndPeopleAreGoneWithAHouse() {
        MirrorClerks x = Scenes.busyThenHouse("####,####,####;9");
        for (int what = 0; what <= 8; what++) {
            Edges.due("count(" + what + ")", x.count(what), what == 0 ? 9 : 0);
        }
        Edges.due("clerkOf(0, 0)", x.clerkOf(0, 0), UNKNOWN);
        Edges.due("personOf(0, 0)", x.personOf(0, 0), UNKNOWN);
        MirrorClerks same = Scenes.busyThenHouse(Scenes.OPEN);
        Edges.due("a CLERK's number anew", same.clerk(0, 0), 0);
        Edges.due("a PERSON's number anew", same.person(0), 0);
        Edges.due("not ENTERED yet", same.personOf(0, 1), 0);
    }

    @Edges.Of("5: with all that was, the LEDGER, too")
    static void theLedgerIsGoneWithAHouse() {
        MirrorClerks x = Scenes.busyThenHouse(Scenes.OPEN);
        Edges.due("count(7)", x.count(7), 0);
        Edges.due("forget()", x.forget(), 0);
        Edges.due("a STEP then", x.ledger(0), 1);
    }

    @Edges.Of("5: no DUSK")
    static void duskIsGoneWithAHouse() {
        MirrorClerks x = Scenes.busy();
        x.dusk(true);
        x.blank();
        Check.write(x, Scenes.OPEN);
        x.house();
        Edges.due("dusk(true)", x.dusk(true), 0);
    }

    // ---- 6

    @Edges.Of("0: CELLS are 0 to 11 as told")
    static void cellsAre0To11() {
        MirrorClerks x = Scenes.busy();
        for (int cell = 0; cell < 12; cell++) {
            int sign = SIGNS.indexOf(Scenes.EACH_SIGN.charAt(cell + cell / 4));
            Edges.due("cell(" + cell + ", 0)", x.cell(cell, 0), sign);
        }
    }

    @Edges.Of("6: UNKNOWN")
    static void aCellIsUnknown() {
        Edges.taken(Scenes::busy, 0, "cell", 0, 0);
        Edges.taken(Scenes::busy, 0, "cell", 11, 0);
        for (int cell : Edges.around(-1, 12)) {
            for (int what = 0; what <= 3; what++) {
                Edges.refused(Scenes::busy, UNKNOWN, "cell", cell, what);
            }
        }
    }

    @Edges.Of("6: UNKNOWN (also without a HOUSE)")
    static void aCellIsUnknownWithoutAHouse() {
        for (int cell = 0; cell < 12; cell++) {
            for (int what = -1; what <= 4; what++) {
                Edges.taken(Scenes::bare, UNKNOWN, "cell", cell, what);
            }
        }
        Edges.refused(Scenes::bare, UNKNOWN, "cell", 0, 0);
        Edges.refused(Scenes::bare, UNKNOWN, "cell", 11, 3);
    }

    @Edges.Of("6: OUTSIDE.")
    static void ofACellIsTold0To3() {
        Edges.taken(Scenes::busy, 2, "cell", 4, 0);
        Edges.taken(Scenes::busy, 1, "cell", 11, 3);
        for (int what : Edges.around(-1, 4)) {
            Edges.refused(Scenes::busy, OUTSIDE, "cell", 0, what);
            Edges.refused(Scenes::busy, OUTSIDE, "cell", 11, what);
        }
    }

    @Edges.Of("6: UNKNOWN (also without a HOUSE); OUTSIDE.")
    static void anUnknownCellComesAheadOfOutside() {
        for (int what : Edges.around(-1, 4)) {
            Edges.refused(Scenes::busy, UNKNOWN, "cell", 12, what);
            Edges.refused(Scenes::busy, UNKNOWN, "cell", -1, what);
            Edges.refused(Scenes::bare, UNKNOWN, "cell", 0, what);
        }
    }

    @Edges.Of("6: whether it is a FLOOR (0), a WALL (1), a MIRROR of a KIND (2 and KIND)")
    static void eachSignIsToldByItsNumber() {
        for (int sign = 0; sign < SIGNS.length(); sign++) {
            String first = withLetter(Scenes.OPEN, 0, SIGNS.charAt(sign));
            String last = withLetter(Scenes.OPEN, 13, SIGNS.charAt(sign));
            Edges.taken(() -> Check.houseOf(first), sign, "cell", 0, 0);
            Edges.taken(() -> Check.houseOf(last), sign, "cell", 11, 0);
        }
    }

    @Edges.Of("6: 1 by which CLERKS it is SEEN, as bits")
    static void aCellIsSeenByNoneAndByAll() {
        MirrorClerks x = Scenes.open();
        Edges.due("without a CLERK", x.cell(5, 1), 0);
        x.clerk(4, 0);
        x.clerk(4, 0);
        x.clerk(1, 1);
        Edges.due("by all three", x.cell(5, 1), 7);
        Edges.due("by the last alone", x.cell(9, 1), 4);
        Edges.due("by none", x.cell(8, 1), 0);
        Edges.due("none LEFT for right", x.cell(5, 2), 0);
    }

    @Edges.Of("6: 2 by which of these LEFT for right")
    static void aCellIsLeftForRightByNoneAndByAll() {
        MirrorClerks x = Check.houseOf("..f.,....,....;9");
        x.clerk(1, 0);
        x.clerk(1, 0);
        x.clerk(1, 0);
        Edges.due("SEEN by all", x.cell(0, 1), 7);
        Edges.due("LEFT for right by all", x.cell(0, 2), 7);
        Edges.due("not SEEN, not LEFT for right", x.cell(3, 2), 0);
    }

    @Edges.Of("6: 3 how many PEOPLE are there.")
    static void upToThreePeopleAreOnACell() {
        MirrorClerks x = Scenes.open();
        for (int people = 0; people <= 3; people++) {
            Edges.due("PEOPLE there", x.cell(11, 3), people);
            Edges.due("PEOPLE elsewhere", x.cell(0, 3), 0);
            x.person(11);
        }
        Edges.due("when one more was refused", x.cell(11, 3), 3);
    }

    // ---- 7

    @Edges.Of("7: NONE: it is none such (the cast fails).")
    static void aMirrorIsTakenAsAKindOrNone() {
        String taken = "10000,11000,10100,10110,10001";
        for (int cell = 0; cell < 5; cell++) {
            for (int kind = 0; kind < 5; kind++) {
                int due = taken.charAt(cell * 6 + kind) == '1' ? cell : NONE;
                Edges.taken(HouseEdgesTest::mirrors, due, "as", cell, kind);
            }
        }
        Edges.taken(HouseEdgesTest::mirrors, 11, "as", 11, 0);
        Edges.taken(HouseEdgesTest::mirrors, NONE, "as", 11, 1);
    }

    @Edges.Of("7: UNKNOWN: there is no MIRROR")
    static void whereThereIsNoMirrorItIsUnknown() {
        for (int kind = 0; kind < 5; kind++) {
            Edges.refused(HouseEdgesTest::mirrors, UNKNOWN, "as", 5, kind);
            Edges.refused(HouseEdgesTest::mirrors, UNKNOWN, "as", 6, kind);
            Edges.refused(Scenes::bare, UNKNOWN, "as", 0, kind);
        }
        for (int cell : Edges.around(-1, 12)) {
            Edges.refused(Scenes::busy, UNKNOWN, "as", cell, 0);
        }
    }

    @Edges.Of("7: OUTSIDE.")
    static void kindsAre0To4() {
        Edges.taken(HouseEdgesTest::mirrors, 0, "as", 0, 0);
        Edges.taken(HouseEdgesTest::mirrors, 4, "as", 4, 4);
        for (int kind : Edges.around(-1, 5)) {
            Edges.refused(Scenes::busy, OUTSIDE, "as", 4, kind);
            Edges.refused(Scenes::busy, OUTSIDE, "as", 8, kind);
        }
    }

    @Edges.Of("7: UNKNOWN: there is no MIRROR; OUTSIDE.")
    static void noMirrorComesAheadOfOutside() {
        for (int kind : Edges.around(-1, 5)) {
            Edges.refused(Scenes::busy, UNKNOWN, "as", 0, kind);
            Edges.refused(Scenes::busy, UNKNOWN, "as", 2, kind);
            Edges.refused(Scenes::busy, UNKNOWN, "as", 12, kind);
            Edges.refused(Scenes::bare, UNKNOWN, "as", 4, kind);
        }
    }

    private static MirrorClerks mirrors() {
        return Check.houseOf(MIRRORS);
    }

    // ---- 8

    @Edges.Of("8: STATE: no HOUSE.")
    static void noDuskWithoutAHouse() {
        Edges.refused(Scenes::bare, STATE, "dusk", 0);
        Edges.refused(Scenes::bare, STATE, "dusk", 1);
        Edges.taken(Scenes::open, 0, "dusk", 1);
    }

    @Edges.Of("0: they change nothing.")
    static void aDuskThatWasRefusedIsNone() {
        MirrorClerks x = Scenes.fresh();
        x.dusk(true);
        Edges.due("count(3)", x.count(3), 0);
        Check.write(x, Scenes.OPEN);
        x.house();
        Edges.due("dusk(false)", x.dusk(false), 0);
    }

    @Edges.Of("8: It is DUSK, or not: whether it was (1, 0).")
    static void whetherItWasDusk() {
        MirrorClerks x = Scenes.open();
        boolean[] row = {false, true, true, false, false, true};
        boolean was = false;
        for (boolean is : row) {
            Edges.due("dusk(" + is + ")", x.dusk(is), was ? 1 : 0);
            Edges.due("count(3)", x.count(3), is ? 1 : 0);
            was = is;
        }
    }
}
