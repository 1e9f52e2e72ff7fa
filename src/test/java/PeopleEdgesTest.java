/** Edges of promises 9 to 14. */
public final class PeopleEdgesTest {
    private static final int UNKNOWN = MirrorClerks.UNKNOWN, OUTSIDE = MirrorClerks.OUTSIDE,
        STATE = MirrorClerks.STATE, FULL = MirrorClerks.FULL;
    private static final int RIGHT = 0, DOWN = 1, LEFT = 2, UP = 3;

    public static void main(String[] args) throws ReflectiveOperationException {
        Edges.run(PeopleEdgesTest.class);
    }

    // ---- 9

    @Edges.Of("9: UNKNOWN: cell")
    static void aClerksCellIsUnknown() {
        Edges.taken(Scenes::busy, 2, "clerk", 0, RIGHT);
        Edges.taken(Scenes::busy, 2, "clerk", 11, RIGHT);
        for (int cell : Edges.around(-1, 12)) {
            Edges.refused(Scenes::busy, UNKNOWN, "clerk", cell, RIGHT);
        }
        Edges.refused(Scenes::bare, UNKNOWN, "clerk", -1, RIGHT);
        Edges.refused(Scenes::bare, UNKNOWN, "clerk", 12, RIGHT);
    }

    @Edges.Of("9: OUTSIDE: way")
    static void aClerksWayIs0To3() {
        for (int way = 0; way < 4; way++) {
            Edges.taken(Scenes::busy, 2, "clerk", 0, way);
        }
        for (int way : Edges.around(-1, 4)) {
            Edges.refused(Scenes::busy, OUTSIDE, "clerk", 0, way);
        }
    }

    @Edges.Of("9: STATE: it is no FLOOR")
    static void aClerkStandsOnAFloor() {
        for (int cell : Scenes.NO_FLOORS) {
            Edges.refused(Scenes::busy, STATE, "clerk", cell, RIGHT);
        }
    }

    @Edges.Of("9: FULL.")
    static void aFourthClerkIsTooMany() {
        Edges.taken(() -> Scenes.crowd(2, 3), 2, "clerk", 0, UP);
        Edges.refused(() -> Scenes.crowd(3, 0), FULL, "clerk", 0, UP);
        Edges.refused(Scenes::full, FULL, "clerk", 0, RIGHT);
        Edges.refused(Scenes::full, FULL, "clerk", 11, UP);
    }

    @Edges.Of("9: UNKNOWN: cell; OUTSIDE: way; STATE: it is no FLOOR; FULL.")
    static void ofAClerksRefusalsTheFirst() {
        for (int way : Edges.around(-1, 4)) {
            Edges.refused(Scenes::busy, UNKNOWN, "clerk", 12, way);
            Edges.refused(Scenes::full, UNKNOWN, "clerk", -1, way);
            Edges.refused(Scenes::busy, OUTSIDE, "clerk", 2, way);
            Edges.refused(Scenes::full, OUTSIDE, "clerk", 4, way);
            Edges.refused(Scenes::full, OUTSIDE, "clerk", 0, way);
        }
        Edges.refused(Scenes::full, UNKNOWN, "clerk", 12, RIGHT);
        for (int cell : Scenes.NO_FLOORS) {
            Edges.refused(Scenes::full, STATE, "clerk", cell, RIGHT);
        }
    }

    // ---- 10

    @Edges.Of("10: UNKNOWN")
    static void aClerkWhoLooksIsUnknown() {
        for (int clerks = 0; clerks <= 3; clerks++) {
            int many = clerks;
            for (int clerk : Edges.around(-1, clerks)) {
                Edges.refused(() -> Scenes.crowd(many, 3), UNKNOWN, "look", clerk, UP);
            }
            for (int clerk = 0; clerk < clerks; clerk++) {
                Edges.taken(() -> Scenes.crowd(many, 0), LEFT, "look", clerk, UP);
            }
        }
        Edges.refused(Scenes::bare, UNKNOWN, "look", 0, RIGHT);
        Edges.refused(Scenes::full, UNKNOWN, "look", 3, RIGHT);
    }

    @Edges.Of("10: OUTSIDE.")
    static void aWayToLookIs0To3() {
        for (int way = 0; way < 4; way++) {
            MirrorClerks x = Scenes.busy();
            Edges.due("look(0, " + way + ")", x.look(0, way), DOWN);
            Edges.due("look(0, 0) then", x.look(0, RIGHT), way);
        }
        for (int way : Edges.around(-1, 4)) {
            Edges.refused(Scenes::busy, OUTSIDE, "look", 0, way);
            Edges.refused(Scenes::full, OUTSIDE, "look", 2, way);
        }
    }

    @Edges.Of("10: UNKNOWN; OUTSIDE.")
    static void anUnknownClerkComesAheadOfAWay() {
        for (int way : Edges.around(-1, 4)) {
            Edges.refused(Scenes::busy, UNKNOWN, "look", 2, way);
            Edges.refused(Scenes::busy, UNKNOWN, "look", -1, way);
        }
    }

    // ---- 11

    @Edges.Of("11: UNKNOWN")
    static void ofAnUnknownClerkNothingIsTold() {
        for (int clerks = 0; clerks <= 3; clerks++) {
            int many = clerks;
            for (int clerk : Edges.around(-1, clerks)) {
                for (int what = 0; what <= 3; what++) {
                    Edges.refused(() -> Scenes.crowd(many, 3), UNKNOWN, "clerkOf", clerk, what);
                }
            }
            for (int clerk = 0; clerk < clerks; clerk++) {
                Edges.taken(() -> Scenes.crowd(many, 0), 9 + clerk, "clerkOf", clerk, 0);
            }
        }
    }

    @Edges.Of("11: OUTSIDE.")
    static void ofAClerkIsTold0To3() {
        Edges.taken(Scenes::busy, 11, "clerkOf", 1, 0);
        Edges.taken(Scenes::busy, LEFT, "clerkOf", 1, 1);
        Edges.taken(Scenes::busy, Edges.bits(9, 10), "clerkOf", 1, 2);
        Edges.taken(Scenes::busy, 1, "clerkOf", 0, 3);
        for (int what : Edges.around(-1, 4)) {
            Edges.refused(Scenes::busy, OUTSIDE, "clerkOf", 0, what);
            Edges.refused(Scenes::full, OUTSIDE, "clerkOf", 2, what);
        }
    }

    @Edges.Of("11: UNKNOWN; OUTSIDE.")
    static void anUnknownClerkComesAheadOfOutside() {
        for (int what : Edges.around(-1, 4)) {
            Edges.refused(Scenes::busy, UNKNOWN, "clerkOf", 2, what);
            Edges.refused(Scenes::busy, UNKNOWN, "clerkOf", -1, what);
        }
    }

    // ---- 12

    @Edges.Of("12: UNKNOWN: cell")
    static void aPersonsCellIsUnknown() {
        Edges.taken(Scenes::busy, 2, "person", 0);
        Edges.taken(Scenes::busy, 2, "person", 11);
        for (int cell : Edges.around(-1, 12)) {
            Edges.refused(Scenes::busy, UNKNOWN, "person", cell);
        }
        Edges.refused(Scenes::bare, UNKNOWN, "person", -1);
        Edges.refused(Scenes::bare, UNKNOWN, "person", 12);
    }

    @Edges.Of("12: STATE: it is no FLOOR")
    static void aPersonIsOnAFloor() {
        for (int cell : Scenes.NO_FLOORS) {
            Edges.refused(Scenes::busy, STATE, "person", cell);
        }
    }

    @Edges.Of("12: FULL.")
    static void aFourthPersonIsTooMany() {
        Edges.taken(() -> Scenes.crowd(3, 2), 2, "person", 0);
        Edges.refused(() -> Scenes.crowd(0, 3), FULL, "person", 0);
        Edges.refused(Scenes::full, FULL, "person", 0);
        Edges.refused(Scenes::full, FULL, "person", 11);
    }

    @Edges.Of("12: UNKNOWN: cell; STATE: it is no FLOOR; FULL.")
    static void ofAPersonsRefusalsTheFirst() {
        for (int cell : Edges.around(-1, 12)) {
            Edges.refused(Scenes::full, UNKNOWN, "person", cell);
        }
        for (int cell : Scenes.NO_FLOORS) {
            Edges.refused(Scenes::full, STATE, "person", cell);
        }
    }

    // ---- 13

    @Edges.Of("13: UNKNOWN")
    static void ofAnUnknownPersonNothingIsTold() {
        for (int people = 0; people <= 3; people++) {
            int many = people;
            for (int person : Edges.around(-1, people)) {
                Edges.refused(() -> Scenes.crowd(3, many), UNKNOWN, "personOf", person, 0);
                Edges.refused(() -> Scenes.crowd(3, many), UNKNOWN, "personOf", person, 1);
            }
            for (int person = 0; person < people; person++) {
                Edges.taken(() -> Scenes.crowd(0, many), 9 + person, "personOf", person, 0);
            }
        }
    }

    @Edges.Of("13: OUTSIDE.")
    static void ofAPersonIsTold0And1() {
        Edges.taken(Scenes::busy, 11, "personOf", 0, 0);
        Edges.taken(Scenes::busy, 1, "personOf", 0, 1);
        for (int what : Edges.around(-1, 2)) {
            Edges.refused(Scenes::busy, OUTSIDE, "personOf", 0, what);
            Edges.refused(Scenes::full, OUTSIDE, "personOf", 2, what);
        }
    }

    @Edges.Of("13: UNKNOWN; OUTSIDE.")
    static void anUnknownPersonComesAheadOfOutside() {
        for (int what : Edges.around(-1, 2)) {
            Edges.refused(Scenes::busy, UNKNOWN, "personOf", 2, what);
            Edges.refused(Scenes::busy, UNKNOWN, "personOf", -1, what);
        }
    }

    // ---- 14

    @Edges.Of("14: UNKNOWN")
    static void anUnknownPersonDoesNotStep() {
        for (int people = 0; people <= 3; people++) {
            int many = people;
            for (int person : Edges.around(-1, people)) {
                Edges.refused(() -> Scenes.crowd(3, many), UNKNOWN, "step", person, LEFT);
            }
        }
        Edges.taken(() -> Scenes.crowd(0, 3), 10, "step", 0, RIGHT);
        Edges.taken(() -> Scenes.crowd(0, 3), 10, "step", 2, LEFT);
    }

    @Edges.Of("14: OUTSIDE: way")
    static void aWayToStepIs0To3() {
        int[] to = {6, 9, 4, 1};
        for (int way = 0; way < 4; way++) {
            Edges.taken(() -> Scenes.peopled(Scenes.OPEN, 5), to[way], "step", 0, way);
        }
        for (int way : Edges.around(-1, 4)) {
            Edges.refused(() -> Scenes.peopled(Scenes.OPEN, 5), OUTSIDE, "step", 0, way);
            Edges.refused(Scenes::full, OUTSIDE, "step", 2, way);
        }
    }

    @Edges.Of("14: STATE: there is no FLOOR that WAY.")
    static void noStepIntoAWallOrAMirror() {
        int[] from = {4, 1, 6, 9};
        for (char sign : "#mbfwv".toCharArray()) {
            String house = "#.##,." + sign + ".#,#.##;9";
            for (int way = 0; way < 4; way++) {
                int cell = from[way];
                Edges.refused(() -> Scenes.peopled(house, cell), STATE, "step", 0, way);
            }
        }
    }

    @Edges.Of("14: STATE: there is no FLOOR that WAY.")
    static void noStepWhereThereIsNoCell() {
        int[][] borders = {{3, RIGHT}, {7, RIGHT}, {11, RIGHT}, {8, DOWN}, {11, DOWN}, {0, LEFT}, {4, LEFT},
            {8, LEFT}, {0, UP}, {3, UP}};
        for (int[] border : borders) {
            Edges.refused(() -> Scenes.peopled(Scenes.OPEN, border[0]), STATE, "step", 0, border[1]);
        }
    }

    @Edges.Of("14: UNKNOWN; OUTSIDE: way; STATE: there is no FLOOR that WAY.")
    static void ofAStepsRefusalsTheFirst() {
        for (int way : Edges.around(-1, 4)) {
            Edges.refused(Scenes::busy, UNKNOWN, "step", 2, way);
            Edges.refused(Scenes::busy, UNKNOWN, "step", -1, way);
            Edges.refused(() -> Scenes.peopled(".###,####,####;9", 0), OUTSIDE, "step", 0, way);
        }
    }
}
