/** The boundary cases of what is said on reach and ways, under 'Terms', 'Deeds' and in the promises 16 to 19. */
public final class ReachEdgesTest {
    private static final Check check = new Check("ReachEdgesTest");
    /** All balls come to the place 3 within three rows, and stay there. */
    private static final String FUNNEL = ">>>.<<<".repeat(5);
    /** The pockets 0 and 1 are reached by the straight pin 28 alone. */
    private static final String ONE_STRAIGHT = Boards.OPEN.substring(7) + "|>.....";
    /** Boards with rims, gaps, bells and bent pins. */
    private static final String[] BOARDS = {
        Boards.STRAIGHT, Boards.OPEN, FUNNEL, ONE_STRAIGHT, Boards.rows("<|>|<"), Boards.rows("|>.<|"),
        "|>.<||o.|||<>.|o|.|<<>>|||..|o|<>||", "<<<|>>>|||||||>>>|<<<.......||||o||", "|||||||>>>.<<<|||||||.......|.|.|.|"};

    public static void main(String[] args) {
        setsAsBits();
        fullPocketsAndBallsDoNotMatter();
        sidesDoNotMatter();
        bothSidesOnLevelBoards();
        startsOfPockets();
        pinsThatBallsComeTo();
        fewAndManyWays();
        waysByTheRims();
        reachToldInTwoWays();
        waysToldInTwoWays();
        check.end();
    }

    private static void reaches(String what, BentPins x, int pockets) {
        check.same("reach(0), " + what, x.reach(0), pockets);
        check.same("reach(1), " + what, x.reach(1), pockets);
        check.same("count(9), " + what, x.count(9), Integer.bitCount(pockets));
    }

    private static void ways(String what, BentPins x, int... due) {
        for (int pocket = 0; pocket < 7; pocket++) {
            check.same("ways(" + pocket + ", 0), " + what, x.ways(pocket, 0), due[pocket]);
            check.same("ways(" + pocket + ", 1), " + what, x.ways(pocket, 1), due[pocket]);
        }
    }

    private static void starts(String what, BentPins x, int... due) {
        for (int pocket = 0; pocket < 7; pocket++) {
            check.same("pocket(" + pocket + ", 4), " + what, x.pocket(pocket, 4), due[pocket]);
        }
    }

    private static void setsAsBits() {
        check.sentence("Terms", "Sets of pockets are told as bits: the pocket k counts 2 to the power of k.");
        reaches("one pocket, 3", Boards.of(FUNNEL), 8);
        reaches("the lowest ones, 0 and 1", Boards.of(Boards.rows("<<<<<")), 1 + 2);
        reaches("the highest ones, 5 and 6", Boards.of(Boards.rows(">>>>>")), 32 + 64);
        reaches("all", Boards.of(Boards.OPEN), 127);
        for (int k = 1; k < 6; k++) {
            BentPins x = Boards.of(Boards.OPEN);
            x.pull(28 + k);
            x.bend(28 + k, true);
            reaches("all but " + k, x, 127 - (1 << k));
        }
    }

    private static void fullPocketsAndBallsDoNotMatter() {
        check.sentence("Deeds", "A pocket can be reached, if some ball from some place of the row 0 could end in it with "
            + "the pins as they are bent now (full pockets, and how many balls are left, do not matter):");
        BentPins x = Boards.of(Boards.OPEN);
        x.set(BentPins.FULL, 1);
        for (int place = 0; place < 7; place++) {
            x.shoot(place, true);
        }
        check.same("all pockets are full", x.count(8), 7);
        reaches("all pockets are full", x, 127);
        starts("all pockets are full", x, 1, 1, 1, 1, 1, 1, 1);
        Boards.shootAll(x, 6, false);
        check.same("no balls are left", x.count(1), 0);
        reaches("no balls are left", x, 127);
        starts("no balls are left", x, 1, 1, 1, 1, 1, 1, 1);
        ways("no balls are left", x, 1, 1, 1, 1, 1, 1, 1);
        check.same("a pin, with no balls left", x.pin(34, 4), 1);
        BentPins y = Boards.of(FUNNEL);
        Boards.shootAll(y, 3, false);
        reaches("the one pocket is full", y, 8);
        ways("the one pocket is full", y, 0, 0, 0, 7, 0, 0, 0);
    }

    private static void sidesDoNotMatter() {
        BentPins x = Boards.of(ONE_STRAIGHT);
        reaches("the side left", x, 127);
        x.shoot(0, false);
        check.same("the side then", x.pin(28, 2), 1);
        reaches("the side right", x, 127);
        ways("the side right", x, 1, 1, 2, 1, 1, 1, 1);
        x.shoot(0, true);
        reaches("bent to the right by a hard ball", x, 126);
        x.bend(28, false);
        reaches("bent back", x, 127);
        x.bend(28, false);
        reaches("bent to the left", x, 125);
        x.pull(28);
        reaches("pulled out", x, 125);
        x.pull(28);
        reaches("set again, straight", x, 127);
    }

    private static void bothSidesOnLevelBoards() {
        check.sentence("Deeds", "a pin with the bend 0 can send a ball to both sides on a level board, by its tilt on a "
            + "tilted one.");
        BentPins x = Boards.of(ONE_STRAIGHT);
        BentPins straight = new BentPins();
        int[] one = {125, 127, 126};
        int[] all = {3, 127, 96};
        for (int tilt = 0; tilt <= 2; tilt++) {
            x.set(BentPins.TILT, tilt);
            reaches("one straight pin, tilt " + tilt, x, one[tilt]);
            straight.set(BentPins.TILT, tilt);
            reaches("straight pins, tilt " + tilt, straight, all[tilt]);
            BentPins bent = Boards.of(Boards.rows("<<<<<"));
            bent.set(BentPins.TILT, tilt);
            reaches("bent pins, tilt " + tilt, bent, 3);
            BentPins open = Boards.of(Boards.OPEN);
            open.set(BentPins.TILT, tilt);
            reaches("no pins, tilt " + tilt, open, 127);
        }
    }

    private static void startsOfPockets() {
        check.sentence("Promise 17", "4: from how many places of the row 0 it could be reached");
        starts("from all places, or none", Boards.of(FUNNEL), 0, 0, 0, 7, 0, 0, 0);
        starts("by the left rim", Boards.of(Boards.rows("<<<<<")), 6, 1, 0, 0, 0, 0, 0);
        starts("by the right rim", Boards.of(Boards.rows(">>>>>")), 0, 0, 0, 0, 0, 1, 6);
        starts("from one place each", Boards.of(Boards.OPEN), 1, 1, 1, 1, 1, 1, 1);
        starts("from two places each", Boards.of(Boards.rows("....|")), 2, 2, 2, 2, 2, 2, 2);
        starts("one straight pin", Boards.of(ONE_STRAIGHT), 1, 1, 2, 1, 1, 1, 1);
    }

    private static void pinsThatBallsComeTo() {
        check.sentence("Promise 16", "4: 1 if a ball could come to it from the row 0 with the pins as they are bent now, "
            + "otherwise 0");
        BentPins funnel = Boards.of(FUNNEL);
        BentPins straight = new BentPins();
        BentPins left = new BentPins();
        left.set(BentPins.TILT, 0);
        Boards.shootAll(left, 0, false);
        for (int pin = 0; pin < 35; pin++) {
            int row = pin / 7;
            int place = pin % 7;
            check.same("funnel, " + pin, funnel.pin(pin, 4), Math.abs(place - 3) <= Math.max(0, 3 - row) ? 1 : 0);
            check.same("straight, " + pin, straight.pin(pin, 4), 1);
            check.same("tilted to the left, no balls left, " + pin, left.pin(pin, 4), place <= 6 - row ? 1 : 0);
        }
    }

    private static void fewAndManyWays() {
        check.sentence("Deeds", "The ways to a pocket are the ways of balls from all places of the row 0 that end in it, "
            + "each with the sides to which the pins that could send it to both sides send it");
        ways("none, or one from each place", Boards.of(FUNNEL), 0, 0, 0, 7, 0, 0, 0);
        ways("one each", Boards.of(Boards.OPEN), 1, 1, 1, 1, 1, 1, 1);
        ways("straight pins", new BentPins(), 32, 32, 32, 32, 32, 32, 32);
        BentPins x = new BentPins();
        x.set(BentPins.TILT, 0);
        ways("a tilted board has no sides", x, 6, 1, 0, 0, 0, 0, 0);
        BentPins y = new BentPins();
        Boards.shootAll(y, 3, false);
        ways("sides that turned", y, 32, 32, 32, 32, 32, 32, 32);
    }

    private static void waysByTheRims() {
        check.sentence("Deeds", "(two ways that come to the same places by a rim are two, if the sides are not the same).");
        ways("two rows by the left rim", Boards.of("|<.....|<....." + Boards.OPEN.substring(14)), 3, 2, 1, 1, 1, 1, 1);
        ways("two rows by the right rim", Boards.of(".....>|.....>|" + Boards.OPEN.substring(14)), 1, 1, 1, 1, 1, 2, 3);
        ways("one pin by the left rim", Boards.of("|" + Boards.OPEN.substring(1)), 1, 2, 1, 1, 1, 1, 1);
        ways("one pin by the right rim", Boards.of(Boards.OPEN.substring(1) + "|"), 1, 1, 1, 1, 1, 2, 1);
    }

    private static void reachToldInTwoWays() {
        check.sentence("Promise 18", "Returns the set (the same for both);");
        for (String board : BOARDS) {
            for (int tilt = 0; tilt <= 2; tilt++) {
                BentPins x = Boards.of(board);
                x.set(BentPins.TILT, tilt);
                int pockets = 0;
                for (int pocket = 0; pocket < 7; pocket++) {
                    pockets |= x.pocket(pocket, 4) > 0 ? 1 << pocket : 0;
                }
                reaches(board + ", tilt " + tilt, x, pockets);
            }
        }
    }

    private static void waysToldInTwoWays() {
        check.sentence("Promise 19", "Returns how many (the same for both);");
        for (String board : BOARDS) {
            for (int tilt = 0; tilt <= 2; tilt++) {
                BentPins x = Boards.of(board);
                x.set(BentPins.TILT, tilt);
                for (int pocket = 0; pocket < 7; pocket++) {
                    String which = board + ", tilt " + tilt + ", pocket " + pocket;
                    int ways = x.ways(pocket, 0);
                    check.same("the two tellings, " + which, x.ways(pocket, 1), ways);
                    check.holds("ways to pockets that can be reached, " + which,
                        ways > 0 == ((x.reach(0) >> pocket & 1) == 1));
                }
            }
        }
    }
}
