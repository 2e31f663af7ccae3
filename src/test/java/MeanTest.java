/** Promise 21: mean. */
public final class MeanTest {
    public static void main(String[] args) {
        Check check = new Check("MeanTest");
        BentPins x = new BentPins();
        check.sameDouble("mean() without shots", x.mean(), 0.0);
        x.shoot(3, false);
        check.sameDouble("mean()", x.mean(), 4.0);
        x.shoot(3, false);
        check.sameDouble("mean()", x.mean(), 4.0);
        x.shoot(3, false);
        check.sameDouble("mean()", x.mean(), 10.0 / 3.0);
        x.undo();
        x.worth(2, 0);
        x.shoot(3, false);
        check.sameDouble("mean()", x.mean(), (double) x.count(0) / 3);
        x.bell(0);
        x.shoot(0, false);
        check.sameDouble("mean()", x.mean(), (double) x.count(0) / 4);
        Boards.shootAll(x, 0, false);
        check.same("a refused shot is none", x.count(10), 20);
        check.sameDouble("mean()", x.mean(), (double) x.count(0) / 20);
        x.empty();
        check.sameDouble("emptied", x.mean(), (double) x.count(0) / 20);
        BentPins y = Boards.of(Boards.rows("....."));
        y.shoot(0, false);
        y.shoot(3, false);
        y.shoot(3, false);
        check.sameDouble("mean() of 4, 1 and 1", y.mean(), 2.0);
        y.shoot(2, false);
        y.shoot(2, false);
        y.shoot(2, false);
        y.shoot(1, false);
        check.sameDouble("mean() of 15 points and 7 shots", y.mean(), 15.0 / 7.0);
        for (int i = 0; i < 4; i++) {
            y.undo();
        }
        check.sameDouble("undone", y.mean(), 2.0);
        check.end();
    }
}
