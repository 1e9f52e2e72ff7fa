/** Edges of promises 15 to 17: what would be. */
public final class PlanEdgesTest {
    private static final int NONE = MirrorClerks.NONE, UNKNOWN = MirrorClerks.UNKNOWN,
        OUTSIDE = MirrorClerks.OUTSIDE, STATE = MirrorClerks.STATE;
    private static final int RIGHT = 0, DOWN = 1, LEFT = 2, UP = 3;
    private static final String RING = "....,.#.#,....;9";

    public static void main(String[] args) throws ReflectiveOperationException {
        Edges.run(PlanEdgesTest.class);
    }

    // ---- 15

    private static void walked(MirrorClerks x, int cell, int entered, int steps, int way) {
        Edges.due("ENTERED to " + cell, x.walk(0, cell, 0), entered);
        Edges.due("STEPS to " + cell, x.walk(0, cell, 1), steps);
        Edges.due("the first WAY to " + cell, x.walk(0, cell, 2), way);
    }

    @Edges.Of("15: (NONE: he is there)")
    static void aWalkToWhereHeIs() {
        walked(Scenes.peopled(Scenes.OPEN, 5), 5, 0, 0, NONE);
        walked(Scenes.peopled(".###,####,####;9", 0), 0, 0, 0, NONE);
        MirrorClerks seen = Scenes.watched(Scenes.OPEN, 4, RIGHT);
        seen.person(5);
        walked(seen, 5, 0, 0, NONE);
    }

    @Edges.Of("15: NONE: there is none.")
    static void noWalkToAFloorApart() {
        walked(Scenes.peopled(".#..,#...,....;9", 0), 11, NONE, NONE, NONE);
        walked(Scenes.peopled(".m..,w...,....;9", 0), 5, NONE, NONE, NONE);
        walked(Scenes.peopled(".#..,#...,....;9", 5), 0, NONE, NONE, NONE);
        walked(Scenes.peopled("...#,#...,....;9", 7), 0, 0, 4, LEFT);
    }

    @Edges.Of("15: UNKNOWN: person")
    static void aPersonWhoWalksIsUnknown() {
        for (int people = 0; people <= 3; people++) {
            int many = people;
            for (int person : Edges.around(-1, people)) {
                Edges.refused(() -> Scenes.crowd(3, many), UNKNOWN, "walk", person, 0, 0);
            }
        }
        Edges.taken(() -> Scenes.crowd(0, 3), 2, "walk", 0, 11, 1);
        Edges.taken(() -> Scenes.crowd(0, 3), 2, "walk", 2, 9, 1);
        Edges.refused(Scenes::bare, UNKNOWN, "walk", 0, 0, 0);
    }

    @Edges.Of("15: UNKNOWN: person, cell")
    static void aCellToWalkToIsUnknown() {
        Edges.taken(() -> Scenes.peopled(Scenes.OPEN, 5), 2, "walk", 0, 0, 1);
        Edges.taken(() -> Scenes.peopled(Scenes.OPEN, 5), 3, "walk", 0, 11, 1);
        for (int cell : Edges.around(-1, 12)) {
            Edges.refused(Scenes::busy, UNKNOWN, "walk", 0, cell, 0);
        }
    }

    @Edges.Of("15: OUTSIDE: what")
    static void ofAWalkIsTold0To2() {
        Edges.taken(() -> Scenes.peopled(Scenes.OPEN, 5), 0, "walk", 0, 4, 0);
        Edges.taken(() -> Scenes.peopled(Scenes.OPEN, 5), LEFT, "walk", 0, 4, 2);
        for (int what : Edges.around(-1, 3)) {
            Edges.refused(Scenes::busy, OUTSIDE, "walk", 0, 0, what);
            Edges.refused(Scenes::busy, OUTSIDE, "walk", 0, 11, what);
        }
    }

    @Edges.Of("15: STATE: it is no FLOOR.")
    static void noWalkToAWallOrAMirror() {
        for (int cell : Scenes.NO_FLOORS) {
            for (int what = 0; what <= 2; what++) {
                Edges.refused(Scenes::busy, STATE, "walk", 0, cell, what);
            }
        }
    }

    @Edges.Of("15: UNKNOWN: person, cell; OUTSIDE: what; STATE: it is no FLOOR.")
    static void ofAWalksRefusalsTheFirst() {
        for (int what : Edges.around(-1, 3)) {
            Edges.refused(Scenes::busy, UNKNOWN, "walk", 2, 0, what);
            Edges.refused(Scenes::busy, UNKNOWN, "walk", 0, 12, what);
            Edges.refused(Scenes::busy, OUTSIDE, "walk", 0, 2, what);
            Edges.refused(Scenes::busy, OUTSIDE, "walk", 0, 8, what);
        }
        Edges.refused(Scenes::busy, UNKNOWN, "walk", 2, 2, 0);
        Edges.refused(Scenes::busy, UNKNOWN, "walk", 2, 12, 0);
    }

    @Edges.Of("0: of all rows of STEPS those by which he is ENTERED least")
    static void ofWalksTheLeastEnteredHoweverLong() {
        MirrorClerks x = Scenes.peopled(RING, 4);
        walked(x, 10, 0, 3, DOWN);
        x.clerk(4, DOWN);
        walked(x, 10, 0, 5, UP);
        x.clerk(0, RIGHT);
        walked(x, 10, 1, 3, DOWN);
    }

    @Edges.Of("0: of these by fewest STEPS")
    static void ofLikeWalksTheFewestSteps() {
        walked(Scenes.peopled(RING, 4), 9, 0, 2, DOWN);
        walked(Scenes.peopled(Scenes.OPEN, 0), 11, 0, 5, RIGHT);
        walked(Scenes.peopled("....,.##.,.##.;9", 0), 11, 0, 5, RIGHT);
        walked(Scenes.peopled(".#..,.#.#,...#;9", 0), 3, 0, 7, DOWN);
    }

    @Edges.Of("0: the first WAY: the least of such")
    static void ofLikeFirstWaysTheLeast() {
        MirrorClerks x = Scenes.peopled(Scenes.OPEN, 5);
        walked(x, 10, 0, 2, RIGHT);
        walked(x, 8, 0, 2, DOWN);
        walked(x, 0, 0, 2, LEFT);
        walked(x, 9, 0, 1, DOWN);
        x.clerk(7, LEFT);
        walked(x, 10, 0, 2, DOWN);
    }

    // ---- 16

    private static void posted(MirrorClerks x, int where, int seen) {
        Edges.due("where", x.post(0), where);
        Edges.due("how many FLOORS", x.post(1), seen);
    }

    @Edges.Of("16: what = 0 where (NONE: there is no FLOOR), 1 how many FLOORS are SEEN then (0).")
    static void noPostWithoutAFloor() {
        posted(Check.houseOf(Scenes.WALLS), NONE, 0);
        posted(Check.houseOf("mbfw,vvvv,####;9"), NONE, 0);
        posted(Check.houseOf("####,####,###.;9"), 4 * 11, 0);
        posted(Check.houseOf(".###,####,####;9"), 0, 0);
    }

    @Edges.Of("16: OUTSIDE")
    static void ofAPostIsTold0And1() {
        Edges.taken(Scenes::open, 0, "post", 0);
        Edges.taken(Scenes::open, 3, "post", 1);
        for (int what : Edges.around(-1, 2)) {
            Edges.refused(Scenes::busy, OUTSIDE, "post", what);
        }
    }

    @Edges.Of("16: STATE: no HOUSE.")
    static void noPostWithoutAHouse() {
        Edges.refused(Scenes::bare, STATE, "post", 0);
        Edges.refused(Scenes::bare, STATE, "post", 1);
    }

    @Edges.Of("16: OUTSIDE; STATE: no HOUSE.")
    static void ofAPostsRefusalsTheFirst() {
        for (int what : Edges.around(-1, 2)) {
            Edges.refused(Scenes::bare, OUTSIDE, "post", what);
        }
    }

    @Edges.Of("0: 4 times the CELL, and WAY: of like ones the least.")
    static void ofLikePostsTheLeast() {
        posted(Check.houseOf("####,#.##,####;9"), 4 * 5 + RIGHT, 0);
        posted(Check.houseOf("####,#.##,#.##;9"), 4 * 5 + DOWN, 1);
        posted(Check.houseOf("#.##,..##,#.##;9"), 4 * 1 + DOWN, 2);
        MirrorClerks last = Scenes.watched("###.,###w,###.;9", 3, DOWN);
        posted(last, 4 * 11 + UP, 2);
        posted(Scenes.open(), 0, 3);
    }

    @Edges.Of("0: would make most FLOORS SEEN by any CLERK")
    static void aPostCountsWhatOthersSee() {
        MirrorClerks x = Scenes.watched(Scenes.OPEN, 0, RIGHT);
        posted(x, 4 * 4 + RIGHT, 6);
        x.clerk(4, RIGHT);
        x.clerk(8, RIGHT);
        posted(x, 4 * 0 + DOWN, 11);
        Edges.due("none is there by it", x.count(4), 3);
    }

    @Edges.Of("0: where one CLERK more (on a FLOOR, one WAY)")
    static void aPostIsOnAFloor() {
        posted(Check.houseOf("m..m,####,.###;9"), 4 * 1 + RIGHT, 1);
        posted(Check.houseOf("w...,####,####;9"), 4 * 1 + RIGHT, 2);
    }

    // ---- 17

    private static void tilted(MirrorClerks x, int cell, int few, int which) {
        Edges.due("how few for " + cell, x.tilt(cell, 0), few);
        Edges.due("which for " + cell, x.tilt(cell, 1), which);
    }

    @Edges.Of("17: UNKNOWN: cell")
    static void aCellToTiltForIsUnknown() {
        Edges.taken(Scenes::open, NONE, "tilt", 0, 0);
        Edges.taken(Scenes::open, NONE, "tilt", 11, 0);
        for (int cell : Edges.around(-1, 12)) {
            Edges.refused(Scenes::busy, UNKNOWN, "tilt", cell, 0);
            Edges.refused(Scenes::bare, UNKNOWN, "tilt", cell, 1);
        }
    }

    @Edges.Of("17: OUTSIDE")
    static void ofATiltIsTold0And1() {
        Edges.taken(() -> Scenes.watched(Scenes.OPEN, 0, RIGHT), 0, "tilt", 1, 0);
        Edges.taken(() -> Scenes.watched(Scenes.OPEN, 0, RIGHT), 0, "tilt", 1, 1);
        for (int what : Edges.around(-1, 2)) {
            Edges.refused(Scenes::busy, OUTSIDE, "tilt", 0, what);
        }
    }

    @Edges.Of("17: STATE: it is no FLOOR")
    static void noTiltForAWallOrAMirror() {
        for (int cell : Scenes.NO_FLOORS) {
            Edges.refused(Scenes::busy, STATE, "tilt", cell, 0);
            Edges.refused(Scenes::busy, STATE, "tilt", cell, 1);
        }
    }

    private static MirrorClerks tiltedOften(int times) {
        MirrorClerks x = Scenes.busy();
        for (int done = x.count(10); done < times; done++) {
            x.tilt(0, done % 2);
        }
        return x;
    }

    @Edges.Of("17: or tilt() was done 20 times ever")
    static void twentyTiltsAtMost() {
        Edges.taken(() -> tiltedOften(19), 0, "tilt", 10, 0);
        Edges.taken(() -> tiltedOften(19), 0, "tilt", 10, 1);
        Edges.refused(() -> tiltedOften(20), STATE, "tilt", 10, 0);
        Edges.refused(() -> tiltedOften(20), STATE, "tilt", 10, 1);
        MirrorClerks x = tiltedOften(19);
        x.tilt(10, 0);
        Edges.due("count(10)", x.count(10), 20);
    }

    @Edges.Of("17: tilt() was done 20 times ever")
    static void twentyTiltsEver() {
        MirrorClerks x = tiltedOften(20);
        x.restore();
        Edges.due("behind restore()", x.tilt(10, 0), STATE);
        x.blank();
        Check.write(x, Scenes.OPEN);
        x.house();
        Edges.due("in another HOUSE", x.tilt(10, 0), STATE);
        Edges.due("count(10)", x.count(10), 20);
    }

    @Edges.Of("17: (refusals do not count, all else does)")
    static void refusedTiltsDoNotCount() {
        MirrorClerks x = tiltedOften(19);
        for (int times = 0; times < 21; times++) {
            x.tilt(12, 0);
            x.tilt(-1, 0);
            x.tilt(0, 2);
            x.tilt(0, -1);
            x.tilt(2, 0);
            x.tilt(4, 1);
        }
        Edges.due("count(10)", x.count(10), 19);
        Edges.due("the twentieth", x.tilt(10, 0), 0);
        Edges.due("the next one", x.tilt(10, 0), STATE);
        Edges.due("count(10)", x.count(10), 20);
    }

    @Edges.Of("17: (refusals do not count, all else does)")
    static void tiltsThatFindNoneCount() {
        MirrorClerks x = Scenes.open();
        Edges.due("none", x.tilt(0, 0), NONE);
        Edges.due("count(10)", x.count(10), 1);
        Edges.due("none", x.tilt(0, 1), NONE);
        Edges.due("count(10)", x.count(10), 2);
        x.clerk(0, RIGHT);
        Edges.due("SEEN as it is", x.tilt(1, 0), 0);
        Edges.due("count(10)", x.count(10), 3);
    }

    @Edges.Of("17: UNKNOWN: cell; OUTSIDE; STATE: it is no FLOOR, or tilt() was done 20 times ever")
    static void ofATiltsRefusalsTheFirst() {
        for (int what : Edges.around(-1, 2)) {
            Edges.refused(Scenes::busy, UNKNOWN, "tilt", 12, what);
            Edges.refused(Scenes::busy, OUTSIDE, "tilt", 2, what);
            Edges.refused(() -> tiltedOften(20), UNKNOWN, "tilt", -1, what);
            Edges.refused(() -> tiltedOften(20), OUTSIDE, "tilt", 0, what);
            Edges.refused(() -> tiltedOften(20), OUTSIDE, "tilt", 2, what);
        }
        Edges.refused(() -> tiltedOften(20), UNKNOWN, "tilt", 12, 0);
        Edges.refused(() -> tiltedOften(20), STATE, "tilt", 2, 0);
    }

    @Edges.Of("17: what = 0 how few, 1 which, as bits; NONE.")
    static void fromNoTiltToSome() {
        tilted(Scenes.watched(Scenes.OPEN, 0, RIGHT), 1, 0, 0);
        tilted(Scenes.watched(".m##,#.##,####;9", 0, RIGHT), 5, 1, Edges.bits(1));
        tilted(Scenes.watched(".m##,#m.#,####;9", 0, RIGHT), 6, 2, Edges.bits(1, 5));
        tilted(Scenes.watched(".m##,#mm#,#.m#;9", 0, RIGHT), 9, 3, Edges.bits(1, 5, 6));
        tilted(Scenes.watched("####,####,.bbb;9", 8, RIGHT), 8, NONE, NONE);
    }

    @Edges.Of("17: NONE.")
    static void noTiltWithoutAClerkOrAWay() {
        tilted(Scenes.open(), 0, NONE, NONE);
        tilted(Scenes.watched(Scenes.OPEN, 0, RIGHT), 0, NONE, NONE);
        tilted(Scenes.watched(Scenes.OPEN, 0, RIGHT), 4, NONE, NONE);
        tilted(Scenes.watched(".m##,#m.#,####;1", 0, RIGHT), 6, NONE, NONE);
        tilted(Scenes.watched(".m##,#m.#,####;2", 0, RIGHT), 6, 2, Edges.bits(1, 5));
    }

    @Edges.Of("0: of how few")
    static void fewerTiltsComeAheadOfLeastBits() {
        MirrorClerks x = Scenes.watched(".m##,#m.#,##m.;9", 0, RIGHT);
        tilted(x, 6, 2, Edges.bits(1, 5));
        x.clerk(11, LEFT);
        tilted(x, 6, 1, Edges.bits(10));
    }

    @Edges.Of("17: 1 which, as bits")
    static void theFirstCellAndTheLastAreTilted() {
        tilted(Scenes.watched("b.##,.###,####;9", 1, LEFT), 4, 1, Edges.bits(0));
        tilted(Scenes.watched("####,###.,##.b;9", 10, RIGHT), 7, 1, Edges.bits(11));
        tilted(Scenes.watched("####,####,##.b;9", 10, RIGHT), 10, NONE, NONE);
    }

    @Edges.Of("0: of which: of like ones the least bits (of CELLS)")
    static void ofLikeTiltsTheLeastBits() {
        MirrorClerks x = Scenes.watched(".b##,#.##,.b##;9", 8, RIGHT);
        tilted(x, 5, 1, Edges.bits(9));
        x.look(0, UP);
        x.clerk(8, RIGHT);
        tilted(x, 5, 1, Edges.bits(9));
        MirrorClerks either = Scenes.watched(".m##,#.##,.b##;9", 8, RIGHT);
        either.clerk(0, RIGHT);
        tilted(either, 5, 1, Edges.bits(1));
        tilted(Scenes.watched("bb.m,m..m,#..#;9", 5, UP), 5, 2, Edges.bits(1, 3));
        tilted(Scenes.watched(".bbm,#m..,b...;9", 6, UP), 7, 2, Edges.bits(2, 3));
    }

    @Edges.Of("0: of how few MIRRORS and BACK ones each must be the other one")
    static void noOtherKindsAreTilted() {
        for (char sign : "fwv#".toCharArray()) {
            MirrorClerks x = Scenes.watched("." + sign + "##,#.##,####;9", 0, RIGHT);
            tilted(x, 5, NONE, NONE);
            x.dusk(true);
            tilted(x, 5, NONE, NONE);
        }
    }

    @Edges.Of("0: (a MIRROR BACK, a BACK one a MIRROR)")
    static void eachOfTheTwoBecomesTheOther() {
        tilted(Scenes.watched(".m##,#.##,####;9", 0, RIGHT), 5, 1, Edges.bits(1));
        tilted(Scenes.watched("#.##,.b##,####;9", 4, RIGHT), 1, 1, Edges.bits(5));
        tilted(Scenes.watched("#.##,####,####;9", 1, RIGHT), 1, NONE, NONE);
        MirrorClerks x = Scenes.watched(".m##,#.##,####;9", 0, RIGHT);
        x.tilt(5, 0);
        Edges.due("it is not done", x.cell(1, 0), 2);
    }
}
