/** Promises 37 and 38: FINDINGS by what they are, and how many there are of what. */
public final class CountsTest {
    public static void main(String[] args) {
        fails();
        counts();
        Due.end();
    }

    private static void fails() {
        ParameterFind x = new ParameterFind();
        x.part(1);
        x.part(7);
        x.row(5, 1);
        x.part(5);
        x.hold(3, 5, 0, 3);
        x.lock(1, true);
        for (int n = 0; n < 1; n++) {
            Due.due("37: NOTHING", x.ask(0, 0), -21);
        }
        for (int n = 0; n < 2; n++) {
            Due.due("37: CAST", x.push(0, 0), -22);
        }
        for (int n = 0; n < 3; n++) {
            Due.due("37: OUT", x.get(2, 1, 5), -23);
        }
        for (int n = 0; n < 4; n++) {
            Due.due("37: KIND", x.length(0), -24);
        }
        for (int n = 0; n < 5; n++) {
            Due.due("37: SIZE", x.row(0, -1), -25);
        }
        for (int n = 0; n < 6; n++) {
            Due.due("37: TROUBLE", x.ask(1, 0), -26);
        }
        for (int n = 0; n < 7; n++) {
            Due.due("37: FAR", x.ask(3, 0), -27);
        }
        Due.due("37: fails(0)", x.fails(0), 28);
        for (int what = 1; what < 8; what++) {
            Due.due("37: fails(" + what + ")", x.fails(what), what);
        }
        Due.due("37: BAD", x.fails(8), -102);
        Due.due("37: BAD", x.fails(-1), -102);
        Due.due("37: BAD", x.fails(Integer.MIN_VALUE), -102);
        Due.due("37: fails(0)", x.fails(0), 28);
    }

    private static void counts() {
        ParameterFind x = new ParameterFind();
        x.part(4);
        x.row(4, 1);
        x.row(-1, 1);
        x.hold(0, 4, 0, 1);
        x.find(0, 0, 0);
        x.keep();
        x.find(0, 3, 5);
        x.find(0, 9, 0);
        x.find(1, 0, 0);
        Due.due("38: THINGS", x.count(0), 2);
        Due.due("38: PARAMETERS", x.count(1), 0);
        Due.due("38: findings", x.count(2), 2);
        Due.due("38: KEPT", x.count(3), 1);
        x.find(0, 0, 0);
        Due.due("38: PARAMETERS", x.count(1), 1);
        Due.due("38: BAD", x.count(4), -102);
        Due.due("38: BAD", x.count(-1), -102);
    }
}
