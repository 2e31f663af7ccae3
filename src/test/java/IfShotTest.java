/** Promise 23: ifShot. */
public final class IfShotTest {
    private static final Check check = new Check("IfShotTest");

    public static void main(String[] args) {
        wrongArguments();
        points();
        asShotsWouldBe();
        hardShotsCloseThePockets();
        withoutBalls();
        check.end();
    }

    private static void wrongArguments() {
        BentPins x = new BentPins();
        int[][] wrong = {{-1, 1, 0}, {7, 1, 0}, {0, 0, 0}, {0, 21, 0}, {0, -1, 0}, {0, 1, -1}, {0, 1, 3},
            {Integer.MAX_VALUE, 1, 0}, {0, Integer.MAX_VALUE, 1}, {0, 1, Integer.MAX_VALUE},
            {Integer.MIN_VALUE, 1, 0}, {0, Integer.MIN_VALUE, 1}, {0, 1, Integer.MIN_VALUE}};
        for (int[] three : wrong) {
            check.same("ifShot(" + three[0] + ", true, " + three[1] + ", " + three[2] + ")",
                x.ifShot(three[0], true, three[1], three[2]), BentPins.INVALID_ARGUMENT);
        }
    }

    private static void points() {
        BentPins x = new BentPins();
        check.same("one soft shot", x.ifShot(3, false, 1, 0), 4);
        check.same("two soft shots", x.ifShot(3, false, 2, 0), 8);
        check.same("three soft shots", x.ifShot(3, false, 3, 0), 10);
        check.same("two hard shots", x.ifShot(3, true, 2, 0), 8);
        check.same("20 hard shots", x.ifShot(3, true, 20, 0), 12);
        check.same("lost of 3 hard shots", x.ifShot(3, true, 3, 1), 0);
        check.same("lost of 20 hard shots", x.ifShot(3, true, 20, 1), 17);
        x.shoot(3, true);
        check.same("only what they bring", x.ifShot(3, true, 20, 0), 8);
        check.same("as long as balls are left", x.ifShot(3, true, 20, 1), 17);
        x.shoot(3, true);
        x.shoot(3, true);
        x.shoot(3, true);
        check.same("only what is lost in them", x.ifShot(3, true, 2, 1), 2);
        x.bell(3);
        check.same("bells alone", x.ifShot(3, true, 5, 0), 5);
    }

    private static void asShotsWouldBe() {
        for (int place = 0; place < 7; place++) {
            for (int shots = 1; shots <= 20; shots++) {
                BentPins x = Boards.of("o|>.|<|||o|||.<|>|||||o|.||||||>|<|");
                x.shoot(3, true);
                String before = Boards.brief(x);
                boolean hard = shots % 2 == 0;
                int points = x.ifShot(place, hard, shots, 0);
                int lost = x.ifShot(place, hard, shots, 1);
                int reach = x.ifShot(place, hard, shots, 2);
                check.sameText("nothing is changed", Boards.brief(x), before);
                check.same("history", x.count(18), 2);
                int pointsBefore = x.count(0);
                for (int shot = 0; shot < shots; shot++) {
                    x.shoot(place, hard);
                }
                check.same("points from " + place, points, x.count(0) - pointsBefore);
                check.same("lost from " + place, lost, x.count(3));
                check.same("reach from " + place, reach, x.reach(1));
            }
        }
    }

    private static void hardShotsCloseThePockets() {
        BentPins x = Boards.of(Boards.rows("....|").substring(0, 28) + "|>.....");
        check.same("before", x.reach(0), 125 + 2);
        check.same("one soft shot", x.ifShot(0, false, 1, 2), 127);
        check.same("one hard shot", x.ifShot(0, true, 1, 2), 125);
        check.same("after", x.reach(0), 127);
    }

    private static void withoutBalls() {
        BentPins x = new BentPins();
        Boards.shootAll(x, 3, true);
        check.same("points", x.ifShot(0, true, 20, 0), 0);
        check.same("lost", x.ifShot(0, true, 20, 1), 0);
        check.same("reach", x.ifShot(0, true, 20, 2), x.reach(0));
        check.same("nothing is refused", x.count(14), 0);
    }
}
