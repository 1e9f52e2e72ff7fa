import java.math.BigInteger;

/** Edges of promises 22 to 25: what is told of all. */
public final class AllEdgesTest {
    private static final int UNKNOWN = MirrorClerks.UNKNOWN, OUTSIDE = MirrorClerks.OUTSIDE,
        STATE = MirrorClerks.STATE;
    private static final int RIGHT = 0, LEFT = 2;

    public static void main(String[] args) throws ReflectiveOperationException {
        Edges.run(AllEdgesTest.class);
    }

    /** In the SIGHT of a CLERK there is so often one ENTERED. */
    private static void enter(MirrorClerks x, int person, int often) {
        for (int times = 0; times < often; times++) {
            x.step(person, times % 2 == 0 ? RIGHT : LEFT);
        }
    }

    private static MirrorClerks seenThree() {
        MirrorClerks x = Scenes.watched(Scenes.OPEN, 4, RIGHT);
        x.person(5);
        x.person(5);
        x.person(5);
        return x;
    }

    // ---- 22

    @Edges.Of("22: STATE: no HOUSE.")
    static void noImageWithoutAHouse() {
        Edges.refused(Scenes::fresh, STATE, "image");
        Edges.refused(Scenes::bare, STATE, "image");
        Edges.taken(Scenes::open, 0, "image");
    }

    @Edges.Of("0: they change nothing.")
    static void aRefusedImageIsNoneLater() {
        MirrorClerks x = Scenes.bare();
        x.image();
        x.blank();
        Check.write(x, Scenes.OPEN);
        x.house();
        Edges.due("restore()", x.restore(), STATE);
    }

    @Edges.Of("22: how often all were ENTERED.")
    static void anImageTellsOfNobodyAndOfThree() {
        Edges.taken(Scenes::open, 0, "image");
        MirrorClerks x = seenThree();
        Edges.due("not yet", x.image(), 0);
        enter(x, 0, 1);
        enter(x, 1, 2);
        enter(x, 2, 4);
        Edges.due("of all three", x.image(), 7);
    }

    @Edges.Of("22: An IMAGE is kept (one; the latest)")
    static void theLatestImageIsKept() {
        MirrorClerks x = seenThree();
        x.image();
        enter(x, 0, 2);
        x.image();
        enter(x, 0, 3);
        Edges.due("restore()", x.restore(), 2);
        Edges.due("restore() once more", x.restore(), 2);
    }

    // ---- 23

    @Edges.Of("23: STATE: none was kept")
    static void noneWasKept() {
        Edges.refused(Scenes::fresh, STATE, "restore");
        Edges.refused(Scenes::bare, STATE, "restore");
        Edges.refused(AllEdgesTest::seenThree, STATE, "restore");
    }

    @Edges.Of("23: or there is another HOUSE since.")
    static void anotherHouseSince() {
        Edges.taken(Scenes::busy, 2, "restore");
        Edges.refused(() -> Scenes.busyThenHouse(Scenes.OPEN), STATE, "restore");
        Edges.refused(() -> Scenes.busyThenHouse(Scenes.EACH_SIGN), STATE, "restore");
        MirrorClerks x = Scenes.busyThenHouse(Scenes.OPEN);
        x.image();
        Edges.due("an IMAGE of the other one", x.restore(), 0);
    }

    @Edges.Of("23: another HOUSE")
    static void aRefusedHouseIsNoOther() {
        MirrorClerks x = Scenes.busyWithPage("....,....,....;0");
        x.house();
        Edges.due("restore()", x.restore(), 2);
    }

    @Edges.Of("0: (those that come since are gone by restore())")
    static void whoCameSinceIsGone() {
        for (int before = 0; before <= 3; before++) {
            MirrorClerks x = Scenes.crowd(before, before);
            x.image();
            for (int since = before; since < 3; since++) {
                x.clerk(0, RIGHT);
                x.person(1);
            }
            x.restore();
            Edges.due("CLERKS", x.count(4), before);
            Edges.due("PEOPLE", x.count(5), before);
            Edges.due("the next CLERK", x.clerkOf(before, 0), UNKNOWN);
            Edges.due("the next PERSON", x.personOf(before, 0), UNKNOWN);
            Edges.due("a CLERK then", x.clerk(0, RIGHT), before < 3 ? before : MirrorClerks.FULL);
            Edges.due("a PERSON then", x.person(0), before < 3 ? before : MirrorClerks.FULL);
        }
    }

    @Edges.Of("0: how often ENTERED")
    static void whoComesByAnOldNumberIsNotEnteredYet() {
        MirrorClerks x = Scenes.watched(Scenes.OPEN, 4, RIGHT);
        x.image();
        x.person(5);
        enter(x, 0, 3);
        x.restore();
        Edges.due("a PERSON then", x.person(5), 0);
        Edges.due("how often ENTERED", x.personOf(0, 1), 0);
        Edges.due("all", x.count(6), 0);
    }

    @Edges.Of("0: where these are, how often ENTERED, which WAY each CLERK looks, DUSK, the LEDGER.")
    static void anImageKeepsAllThat() {
        MirrorClerks x = Scenes.full();
        long before = x.digest();
        x.image();
        for (int number = 0; number < 3; number++) {
            x.look(number, 3);
            x.step(number, LEFT);
            x.step(number, RIGHT);
            x.step(number, LEFT);
        }
        x.dusk(false);
        x.forget();
        x.ledger(1);
        Check.isTrue("all is another", x.digest() != before);
        x.restore();
        Edges.due("digest()", x.digest(), before);
        x.step(0, LEFT);
        x.forget();
        x.restore();
        Edges.due("digest() the second time", x.digest(), before);
    }

    @Edges.Of("0: An IMAGE keeps")
    static void anImageDoesNotKeepThePageNorTilts() {
        MirrorClerks x = Scenes.busy();
        x.letter('.');
        x.tilt(0, 0);
        x.restore();
        Edges.due("letters of THE PAGE", x.count(8), 3);
        Edges.due("how often tilt() was done", x.count(10), 2);
        Edges.due("how often a HOUSE was read", x.count(9), 1);
    }

    // ---- 24

    @Edges.Of("24: OUTSIDE.")
    static void countsAre0To10() {
        Edges.taken(Scenes::busy, 5, "count", 0);
        Edges.taken(Scenes::busy, 1, "count", 10);
        for (int what : Edges.around(-1, 11)) {
            Edges.refused(Scenes::busy, OUTSIDE, "count", what);
            Edges.refused(Scenes::fresh, OUTSIDE, "count", what);
        }
    }

    @Edges.Of("24: 0 DEPTH (0: no HOUSE)")
    static void countOfDepth() {
        Edges.taken(Scenes::bare, 0, "count", 0);
        Edges.taken(() -> Check.houseOf("....,....,....;1"), 1, "count", 0);
        Edges.taken(() -> Check.houseOf("....,....,....;9"), 9, "count", 0);
    }

    @Edges.Of("24: 1 FLOORS")
    static void countOfFloors() {
        Edges.taken(Scenes::bare, 0, "count", 1);
        Edges.taken(() -> Check.houseOf(Scenes.WALLS), 0, "count", 1);
        Edges.taken(Scenes::open, 12, "count", 1);
    }

    @Edges.Of("24: 2 of these SEEN by any CLERK")
    static void countOfFloorsSeen() {
        Edges.taken(Scenes::bare, 0, "count", 2);
        Edges.taken(Scenes::open, 0, "count", 2);
        MirrorClerks x = Scenes.watched(Scenes.OPEN, 4, RIGHT);
        Edges.due("by one", x.count(2), 3);
        x.clerk(5, RIGHT);
        Edges.due("each once", x.count(2), 3);
    }

    @Edges.Of("24: 3 whether it is DUSK (1, 0)")
    static void countOfDusk() {
        MirrorClerks x = Scenes.open();
        Edges.due("not yet", x.count(3), 0);
        x.dusk(true);
        Edges.due("then", x.count(3), 1);
        x.dusk(false);
        Edges.due("no more", x.count(3), 0);
    }

    @Edges.Of("24: 4 CLERKS, 5 PEOPLE")
    static void countOfClerksAndPeople() {
        for (int many = 0; many <= 3; many++) {
            int other = 3 - many;
            int one = many;
            Edges.taken(() -> Scenes.crowd(one, other), many, "count", 4);
            Edges.taken(() -> Scenes.crowd(one, other), other, "count", 5);
        }
    }

    @Edges.Of("24: 6 how often all were ENTERED")
    static void countOfEntries() {
        MirrorClerks x = seenThree();
        Edges.due("not yet", x.count(6), 0);
        enter(x, 0, 1);
        enter(x, 1, 2);
        enter(x, 2, 4);
        Edges.due("of all three", x.count(6), 7);
    }

    @Edges.Of("24: 7 STEPS of the LEDGER, 8 letters of THE PAGE, 9 how often a HOUSE was read")
    static void countsOfTheMost() {
        Edges.taken(Scenes::fresh, 0, "count", 7);
        Edges.taken(Scenes::full, 8, "count", 7);
        Edges.taken(Scenes::fresh, 0, "count", 8);
        Edges.taken(Scenes::full, 18, "count", 8);
        Edges.taken(Scenes::bare, 0, "count", 9);
        Edges.taken(() -> Scenes.busyThenHouse(Scenes.OPEN), 2, "count", 9);
        Edges.taken(() -> Scenes.busyThenHouse("refused"), 1, "count", 9);
    }

    // ---- 25

    @Edges.Of("25: h is 839, then for each of these numbers, in order, 31 times h, and it (as longs, wrapping)")
    static void aDigestWraps() {
        BigInteger fresh = BigInteger.valueOf(839).multiply(BigInteger.valueOf(31).pow(11));
        Check.isTrue("25: wider than a long", fresh.bitLength() > 63);
        Edges.due("of a new object", new MirrorClerks().digest(), fresh.longValue());
        MirrorClerks[] all = {Scenes.fresh(), Scenes.bare(), Scenes.open(), Scenes.busy(), Scenes.full(),
            Check.houseOf(Scenes.WALLS)};
        String[] pages = {"", "..", "", "x,", "x,................", ""};
        for (int i = 0; i < all.length; i++) {
            Edges.due("of object " + i, all[i].digest(), new Digest().of(all[i], pages[i]));
        }
    }

    @Edges.Of("25: with a HOUSE of each CELL")
    static void aDigestWithoutAHouseTellsNoCell() {
        MirrorClerks x = Scenes.bare();
        BigInteger h = BigInteger.valueOf(839);
        for (int number : new int[] {'.', '.', 0, 0, 0, 0, 0, 0, 0, 2, 2, 0, 0}) {
            h = h.multiply(BigInteger.valueOf(31)).add(BigInteger.valueOf(number));
        }
        Edges.due("digest()", x.digest(), h.longValue());
    }

    @Edges.Of("25: for each of these numbers")
    static void aDigestIsTheSameAgain() {
        MirrorClerks x = Scenes.full();
        Edges.due("digest()", x.digest(), x.digest());
    }

    /** The same by numbers without an end, taken by calls. */
    private static final class Digest {
        private BigInteger h = BigInteger.valueOf(839);

        long of(MirrorClerks x, String page) {
            for (int cell = 0; cell < 12 && x.count(0) > 0; cell++) {
                each(x, "cell", 4, cell);
            }
            add(x.count(0) > 0, x.post(0), x.post(1));
            for (int clerk = 0; clerk < x.count(4); clerk++) {
                each(x, "clerkOf", 4, clerk);
            }
            for (int person = 0; person < x.count(5); person++) {
                each(x, "personOf", 2, person);
                each(x, "fits", 2, person);
            }
            for (char letter : page.toCharArray()) {
                add(true, letter);
            }
            for (int what = 0; what <= 10; what++) {
                add(true, x.count(what));
            }
            return h.longValue();
        }

        private void each(MirrorClerks x, String call, int whats, int number) {
            for (int what = 0; what < whats; what++) {
                add(true, Check.ask(x, call, number, what));
            }
        }

        private void add(boolean isTold, long... numbers) {
            for (int i = 0; i < numbers.length && isTold; i++) {
                h = h.multiply(BigInteger.valueOf(31)).add(BigInteger.valueOf(numbers[i]));
            }
        }
    }
}
