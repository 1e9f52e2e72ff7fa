/** Edges of what Terms tell of SIGHT, of CLERKS and of a STEP. */
public final class SightEdgesTest {
    private static final int STATE = MirrorClerks.STATE, FULL = MirrorClerks.FULL;
    private static final int RIGHT = 0, DOWN = 1, LEFT = 2, UP = 3;
    /** From 0: right to 1, by 2 down, by 6 left to 5, by 4 down to 8. */
    private static final String STAIRS = "..b#,m.m#,....;";

    public static void main(String[] args) throws ReflectiveOperationException {
        Edges.run(SightEdgesTest.class);
    }

    private static int seen(String house, int cell, int way) {
        return Scenes.watched(house, cell, way).clerkOf(0, 2);
    }

    private static int turns(String house, int cell, int way) {
        return Scenes.watched(house, cell, way).clerkOf(0, 3);
    }

    @Edges.Of("0: it ends at a WALL")
    static void sightEndsAtAWall() {
        String house = "#.##,.#.#,#.##;9";
        int[] from = {4, 1, 6, 9};
        for (int way = 0; way < 4; way++) {
            Edges.due("SEEN, way " + way, seen(house, from[way], way), 0);
            Edges.due("TURNS, way " + way, turns(house, from[way], way), 0);
        }
        Edges.due("SEEN ahead of it, none behind it", seen("..#.,....,....;9", 0, RIGHT), Edges.bits(1));
    }

    @Edges.Of("0: and where there is no CELL.")
    static void sightEndsAtEachBorder() {
        for (int cell = 0; cell < 12; cell++) {
            for (int way = 0; way < 4; way++) {
                Edges.due("SEEN from " + cell + ", way " + way, seen(Scenes.OPEN, cell, way), beside(cell, way));
                Edges.due("TURNS from " + cell + ", way " + way, turns(Scenes.OPEN, cell, way), 0);
            }
        }
    }

    private static int beside(int cell, int way) {
        int bits = 0;
        int column = cell % 4;
        int row = cell / 4;
        for (int other = 0; other < 12; other++) {
            boolean isInRow = other / 4 == row && (way == RIGHT ? other % 4 > column : other % 4 < column);
            boolean isInColumn = other % 4 == column && (way == DOWN ? other / 4 > row : other / 4 < row);
            bits |= (way == RIGHT || way == LEFT ? isInRow : isInColumn) ? 1 << other : 0;
        }
        return bits;
    }

    @Edges.Of("0: at a VEIL it ends.")
    static void sightEndsAtAVeil() {
        String house = "#.##,.v.#,#.##;9";
        int[] from = {4, 1, 6, 9};
        for (int way = 0; way < 4; way++) {
            Edges.due("SEEN, way " + way, seen(house, from[way], way), 0);
            Edges.due("TURNS, way " + way, turns(house, from[way], way), 0);
        }
        MirrorClerks dusk = Scenes.watched(house, 4, RIGHT);
        dusk.dusk(true);
        Edges.due("SEEN at DUSK", dusk.clerkOf(0, 2), 0);
        Edges.due("TURNS at DUSK", dusk.clerkOf(0, 3), 0);
    }

    @Edges.Of("0: It TURNS no more often than DEPTH")
    static void sightTurnsAsOftenAsDepth() {
        for (int depth = 1; depth <= 9; depth++) {
            Edges.due("TURNS, DEPTH " + depth, turns(".f##,f.f#,####;" + depth, 5, RIGHT), depth);
            Edges.due("TURNS, DEPTH " + depth, turns(STAIRS + depth, 0, RIGHT), Math.min(depth, 3));
        }
    }

    @Edges.Of("0: where it would once more it ends.")
    static void sightEndsWhereItWouldTurnOnceMore() {
        Edges.due("DEPTH 1", seen(STAIRS + 1, 0, RIGHT), Edges.bits(1));
        Edges.due("DEPTH 2", seen(STAIRS + 2, 0, RIGHT), Edges.bits(1, 5));
        Edges.due("DEPTH 3", seen(STAIRS + 3, 0, RIGHT), Edges.bits(1, 5, 8));
        Edges.due("DEPTH 4", seen(STAIRS + 4, 0, RIGHT), Edges.bits(1, 5, 8));
        Edges.due("FLOORS behind the last TURN", seen("f..f,....,....;1", 2, RIGHT), Edges.bits(1, 2));
    }

    @Edges.Of("0: a WINDOW lets it through, but at DUSK it is as a FLAT one")
    static void aWindowTurnsAtDuskAlone() {
        MirrorClerks x = Scenes.watched("f.w.,####,####;1", 1, LEFT);
        Edges.due("SEEN through it, behind as many TURNS as DEPTH", x.clerkOf(0, 2), Edges.bits(1, 3));
        Edges.due("TURNS", x.clerkOf(0, 3), 1);
        x.dusk(true);
        Edges.due("at DUSK it would TURN once more", x.clerkOf(0, 2), Edges.bits(1));
        Edges.due("TURNS at DUSK", x.clerkOf(0, 3), 1);
        x.look(0, RIGHT);
        Edges.due("at DUSK it TURNS", x.clerkOf(0, 2), Edges.bits(1));
        x.dusk(false);
        Edges.due("no DUSK again", x.clerkOf(0, 2), Edges.bits(3));
    }

    @Edges.Of("0: FLOORS that it comes to are SEEN")
    static void mirrorsAreNotSeen() {
        MirrorClerks x = Scenes.watched("w.w.,####,####;9", 1, RIGHT);
        Edges.due("cell(2, 1) of a WINDOW", x.cell(2, 1), 0);
        Edges.due("clerkOf(0, 2)", x.clerkOf(0, 2), Edges.bits(3));
        Edges.due("count(2)", x.count(2), 1);
    }

    @Edges.Of("0: (the first one not, unless it comes back there)")
    static void theFirstFloorIsSeenIfSightComesBack() {
        Edges.due("it does not", seen("....,....,....;9", 0, RIGHT) & 1, 0);
        Edges.due("it does, by one TURN", seen(".f##,####,####;1", 0, RIGHT), Edges.bits(0));
        Edges.due("it does, by four TURNS", seen("m.b#,b.m#,####;4", 1, RIGHT), Edges.bits(1, 5));
        Edges.due("it would, by one more", seen("m.b#,b.m#,####;3", 1, RIGHT), Edges.bits(5));
    }

    @Edges.Of("0: LEFT for right is it by him, if SIGHT had TURNED an odd number of times")
    static void leftForRightByOddTurns() {
        MirrorClerks x = Scenes.watched(STAIRS + 9, 0, RIGHT);
        Edges.due("none", x.cell(1, 2), 0);
        Edges.due("two", x.cell(5, 2), 0);
        Edges.due("three", x.cell(8, 2), 1);
        Edges.due("one", Scenes.watched(".f##,####,####;1", 0, RIGHT).cell(0, 2), 1);
        Edges.due("four", Scenes.watched("m.b#,b.m#,####;4", 1, RIGHT).cell(1, 2), 0);
    }

    @Edges.Of("0: LEFT for right is it by him, if SIGHT had TURNED an odd number of times")
    static void eachFloorBehindATurnIsLeftForRight() {
        MirrorClerks x = Scenes.watched("...f,....,....;9", 2, RIGHT);
        for (int cell = 0; cell < 12; cell++) {
            Edges.due("cell(" + cell + ", 2)", x.cell(cell, 2), cell < 3 ? 1 : 0);
        }
        MirrorClerks none = Scenes.watched(Scenes.OPEN, 11, LEFT);
        for (int cell = 0; cell < 12; cell++) {
            Edges.due("without a TURN, cell(" + cell + ", 2)", none.cell(cell, 2), 0);
        }
        Edges.due("CELL 0 without a TURN", Scenes.watched(Scenes.OPEN, 1, LEFT).cell(0, 2), 0);
    }

    @Edges.Of("0: when it came there first.")
    static void leftForRightByTheFirstComing() {
        MirrorClerks x = Scenes.watched("f..f,####,####;2", 1, RIGHT);
        Edges.due("none, then one", x.cell(2, 2), 0);
        Edges.due("one, then two", x.cell(1, 2), 1);
        Edges.due("both are SEEN", x.clerkOf(0, 2), Edges.bits(1, 2));
    }

    @Edges.Of("0: By a MIRROR it TURNS: from right up, from up right, from left down, from down left")
    static void whatWouldBeIsByTheMirrorsAsTheyAre() {
        MirrorClerks x = Scenes.watched("m...,....,....;9", 4, UP);
        x.person(5);
        x.ledger(1);
        Edges.due("count(2)", x.count(2), 3);
        Edges.due("cell(1, 1)", x.cell(1, 1), 1);
        Edges.due("walk", x.walk(0, 1, 0), 1);
        Edges.due("fits", x.fits(0, 1), Edges.bits(1));
        Edges.due("days", x.days(1, seedThatGoesUp(), 0), 1);
        Edges.due("post beside him", x.post(1), 6);
        x.step(0, UP);
        Edges.due("step", x.personOf(0, 1), 1);
        Edges.due("post alone, where", Check.houseOf("m...,....,....;9").post(0), 4 * 3 + LEFT);
        Edges.due("post alone, how many", Check.houseOf("m...,....,....;9").post(1), 4);
    }

    private static int seedThatGoesUp() {
        for (int seed = 0; seed < 100; seed++) {
            if (Scenes.peopled(Scenes.OPEN, 5).days(1, seed, 1) == 1) {
                return seed;
            }
        }
        return -1;
    }

    @Edges.Of("0: CLERKS (3 at most, numbered)")
    static void threeClerksAtMost() {
        for (int clerks = 0; clerks < 3; clerks++) {
            int number = clerks;
            Edges.taken(() -> Scenes.crowd(number, 0), number, "clerk", 0, RIGHT);
        }
        Edges.refused(() -> Scenes.crowd(3, 0), FULL, "clerk", 0, RIGHT);
    }

    @Edges.Of("0: PEOPLE (3 at most, numbered)")
    static void threePeopleAtMost() {
        for (int people = 0; people < 3; people++) {
            int number = people;
            Edges.taken(() -> Scenes.crowd(0, number), number, "person", 0);
        }
        Edges.refused(() -> Scenes.crowd(0, 3), FULL, "person", 0);
    }

    @Edges.Of("0: if that is SEEN by any CLERK, he is ENTERED once more.")
    static void enteredOnceByHoweverManyClerks() {
        for (int clerks = 0; clerks <= 3; clerks++) {
            MirrorClerks x = Scenes.peopled(Scenes.OPEN, 5);
            for (int clerk = 0; clerk < clerks; clerk++) {
                x.clerk(7, LEFT);
            }
            x.step(0, RIGHT);
            Edges.due("by " + clerks + " CLERKS", x.personOf(0, 1), clerks == 0 ? 0 : 1);
            x.step(0, LEFT);
            Edges.due("once more by " + clerks + " CLERKS", x.personOf(0, 1), clerks == 0 ? 0 : 2);
        }
    }

    @Edges.Of("0: into the FLOOR beside him, one WAY; if that is SEEN by any CLERK")
    static void enteredWhereHeGoesNotWhereHeComesFrom() {
        MirrorClerks x = Scenes.watched(Scenes.OPEN, 4, RIGHT);
        x.person(5);
        Edges.due("not as he comes", x.personOf(0, 1), 0);
        x.step(0, UP);
        Edges.due("out of SIGHT", x.personOf(0, 1), 0);
        x.step(0, DOWN);
        Edges.due("into SIGHT", x.personOf(0, 1), 1);
        x.step(0, LEFT);
        Edges.due("onto the CLERK's own CELL", x.personOf(0, 1), 1);
        x.step(0, LEFT);
        Edges.due("by a refused STEP", x.personOf(0, 1), 1);
    }

    @Edges.Of("0: A STEP of one: into the FLOOR beside him, one WAY")
    static void noStepOverABorder() {
        for (int cell = 0; cell < 12; cell++) {
            for (int way = 0; way < 4; way++) {
                int from = cell;
                if (beside(cell, way) == 0) {
                    Edges.refused(() -> Scenes.peopled(Scenes.OPEN, from), STATE, "step", 0, way);
                } else {
                    int to = cell + new int[] {1, 4, -1, -4}[way];
                    Edges.taken(() -> Scenes.peopled(Scenes.OPEN, from), to, "step", 0, way);
                }
            }
        }
    }
}
