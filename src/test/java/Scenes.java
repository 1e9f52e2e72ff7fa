/** Objects that many tests begin with; each time another one. */
final class Scenes {
    /** Each sign on a CELL: FLOORS are 0, 1, 3, 9, 10, 11. */
    static final String EACH_SIGN = "..#.,mbfw,v...;5";
    static final String OPEN = "....,....,....;9";
    static final String WALLS = "####,####,####;1";
    /** The CELLS of EACH_SIGN that are none of its FLOORS. */
    static final int[] NO_FLOORS = {2, 4, 5, 6, 7, 8};

    private Scenes() {
    }

    static MirrorClerks fresh() {
        return new MirrorClerks();
    }

    /** No HOUSE, but a LEDGER, and letters on THE PAGE. */
    static MirrorClerks bare() {
        MirrorClerks x = new MirrorClerks();
        x.ledger(1);
        x.ledger(MirrorClerks.NONE);
        Check.write(x, "..");
        return x;
    }

    static MirrorClerks open() {
        return Check.houseOf(OPEN);
    }

    /** Of all there is some, with room for one more of each, and an IMAGE of another time. */
    static MirrorClerks busy() {
        MirrorClerks x = Check.houseOf(EACH_SIGN);
        x.clerk(0, 0);
        x.clerk(11, 2);
        x.person(9);
        x.person(0);
        x.step(0, 0);
        x.step(1, 0);
        x.ledger(MirrorClerks.NONE);
        x.ledger(1);
        x.tilt(1, 0);
        x.dusk(true);
        x.image();
        x.dusk(false);
        x.look(0, 1);
        x.step(0, 0);
        x.forget();
        x.ledger(0);
        Check.write(x, "x,");
        return x;
    }

    /** Of all there is the most. */
    static MirrorClerks full() {
        MirrorClerks x = busy();
        x.clerk(3, 2);
        x.person(11);
        for (int step = x.count(7); step < 8; step++) {
            x.ledger(MirrorClerks.NONE);
        }
        for (int letter = x.count(8); letter < 18; letter++) {
            x.letter('.');
        }
        x.image();
        x.dusk(true);
        return x;
    }

    /** As many CLERKS and PEOPLE, one beside the other, in a HOUSE with each sign. */
    static MirrorClerks crowd(int clerks, int people) {
        MirrorClerks x = Check.houseOf(EACH_SIGN);
        for (int number = 0; number < clerks; number++) {
            x.clerk(9 + number, 2);
        }
        for (int number = 0; number < people; number++) {
            x.person(9 + number);
        }
        return x;
    }

    /** One CLERK in a HOUSE. */
    static MirrorClerks watched(String house, int cell, int way) {
        MirrorClerks x = Check.houseOf(house);
        x.clerk(cell, way);
        return x;
    }

    /** One PERSON in a HOUSE. */
    static MirrorClerks peopled(String house, int cell) {
        MirrorClerks x = Check.houseOf(house);
        x.person(cell);
        return x;
    }

    /** No HOUSE, and a text on THE PAGE. */
    static MirrorClerks page(String text) {
        MirrorClerks x = new MirrorClerks();
        Check.write(x, text);
        return x;
    }

    /** A HOUSE with all, and a text on THE PAGE. */
    static MirrorClerks busyWithPage(String text) {
        MirrorClerks x = busy();
        x.blank();
        Check.write(x, text);
        return x;
    }

    /** A HOUSE with all, in which another one is read. */
    static MirrorClerks busyThenHouse(String house) {
        MirrorClerks x = busyWithPage(house);
        x.house();
        return x;
    }
}
