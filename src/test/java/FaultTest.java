/** Promise 11: fault. */
public final class FaultTest {
    private static final Check check = new Check("FaultTest");

    public static void main(String[] args) {
        wrongWays();
        boards();
        shots();
        firstSigns();
        check.end();
    }

    private static void due(String pad, int way, int fault) {
        BentPins x = new BentPins();
        Boards.write(x, pad);
        check.same("fault(" + way + ") of " + pad, x.fault(way), fault);
        check.same("the pad stays: " + pad, x.count(17), pad.length());
    }

    private static void wrongWays() {
        BentPins x = new BentPins();
        int[] wrong = {-1, 2, Integer.MIN_VALUE, Integer.MAX_VALUE};
        for (int way : wrong) {
            check.same("fault(" + way + ")", x.fault(way), BentPins.INVALID_ARGUMENT);
        }
    }

    private static void boards() {
        due("", 0, 0);
        due("<|>.o", 0, 5);
        due("<|>.O", 0, 4);
        due("x", 0, 0);
        due("|||!", 0, 3);
        due(Boards.STRAIGHT, 0, BentPins.NOT_FOUND);
        due(Boards.STRAIGHT.substring(1), 0, 34);
        due(Boards.STRAIGHT + "|", 0, 35);
        due(Boards.STRAIGHT + "||x", 0, 35);
        due(Boards.with(Boards.STRAIGHT, 34, 'e'), 0, 34);
        due(Boards.rows("<|>.o"), 0, BentPins.NOT_FOUND);
        due(Boards.rows("<|>.o") + Boards.STRAIGHT.substring(10), 0, 35);
    }

    private static void shots() {
        due("", 1, 0);
        due("0", 1, BentPins.NOT_FOUND);
        due("6!", 1, BentPins.NOT_FOUND);
        due("e", 1, BentPins.NOT_FOUND);
        due("7", 1, 0);
        due("/", 1, 0);
        due("!", 1, 0);
        due(",", 1, 0);
        due("E", 1, 0);
        due("0,", 1, 2);
        due("0!,", 1, 3);
        due("e,", 1, 2);
        due("0,7", 1, 2);
        due("0,,", 1, 2);
        due("0,!", 1, 2);
        due("00", 1, 1);
        due("0e", 1, 1);
        due("0!!", 1, 2);
        due("0!0", 1, 2);
        due("0!e", 1, 2);
        due("e!", 1, 1);
        due("ee", 1, 1);
        due("e0", 1, 1);
        due("e,e,0!,6,e,3", 1, BentPins.NOT_FOUND);
        due("0,1,2,3,4,5,6,7,8", 1, 14);
        StringBuilder sixty = new StringBuilder();
        for (int i = 0; i < 30; i++) {
            sixty.append("0,");
        }
        due(sixty.toString(), 1, 60);
        due(sixty.substring(0, 59), 1, BentPins.NOT_FOUND);
    }

    private static void firstSigns() {
        for (int code = 33; code <= 126; code++) {
            String sign = String.valueOf((char) code);
            due(sign, 0, "<|>.o".contains(sign) ? 1 : 0);
            due(sign, 1, "0123456e".contains(sign) ? BentPins.NOT_FOUND : 0);
            due("3" + sign, 1, "!".equals(sign) ? BentPins.NOT_FOUND : ",".equals(sign) ? 2 : 1);
            due("3!" + sign, 1, ",".equals(sign) ? 3 : 2);
            due("e" + sign, 1, ",".equals(sign) ? 2 : 1);
            due("e," + sign, 1, "0123456e".contains(sign) ? BentPins.NOT_FOUND : 2);
        }
    }
}
