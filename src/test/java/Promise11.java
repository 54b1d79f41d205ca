/** Promise 11: attack. */
final class Promise11 {
    private static final int BAD = PathInterdiction.BAD, STATE = PathInterdiction.STATE;

    private Promise11() {
    }

    static void tell(Section promise) {
        promise.says("Puts an edge into the present attack", Promise11::putsIn);
        promise.says("or takes it out", Promise11::takesOut);
        promise.says("This is a change.", due -> {
            Ask.change(due, x -> x.attack(4, true), Benches::some);
            Ask.change(due, x -> x.attack(1, true), Benches::some, Benches::full);
            Ask.change(due, x -> x.attack(0, false), Benches::some, Benches::full);
            Ask.change(due, x -> x.attack(15, false), Benches::full);
        });
        promise.says("`edge`: the edge", due -> {
            Ask.edge(due, (x, e) -> x.attack(e, true));
            Ask.edge(due, (x, e) -> x.attack(e, false));
        });
        promise.says("`on`: whether it shall be in the attack", Promise11::on);
        promise.says("Returns the cost of the present attack then", Promise11::answersCost);
        promise.says("BAD", Promise11::badComesFirst);
        promise.says("STATE if it is in the attack already", Promise11::refusesTwice);
        promise.says("or is not, respectively", Promise11::refusesToTakeOutTwice);
    }

    private static void putsIn(Due due) {
        for (int in = 0; in < 16; in++) {
            PathInterdiction x = Benches.full();
            x.setAttack(0xffff & ~(1 << in));
            x.attack(in, true);
            due.is("with " + in + " all are attacked", x.count(1), 16);
            x.setAttack(0);
            x.attack(in, true);
            for (int e = 0; e < 16; e++) {
                due.is("with " + in + " alone: edge(" + e + ", 5)", x.edge(e, 5), e == in ? 1 : 0);
            }
        }
    }

    private static void takesOut(Due due) {
        for (int out = 0; out < 16; out++) {
            PathInterdiction x = Benches.full();
            x.setAttack(1 << out);
            x.attack(out, false);
            due.is("without " + out + " none is attacked", x.count(1), 0);
            x.setAttack(0xffff);
            x.attack(out, false);
            for (int e = 0; e < 16; e++) {
                due.is("without " + out + ": edge(" + e + ", 5)", x.edge(e, 5), e == out ? 0 : 1);
            }
        }
    }

    private static void on(Due due) {
        PathInterdiction x = Texts.loaded("ab5+x:2");
        due.is("true", x.attack(0, true), 2);
        due.is("it is blocked", x.distance(0, 1), PathInterdiction.UNREACHABLE);
        due.is("false", x.attack(0, false), 0);
        due.is("it is not", x.distance(0, 1), 5);
    }

    private static void answersCost(Due due) {
        PathInterdiction x = Benches.ladder(9);
        for (int e = 0; e < 16; e++) {
            due.is("in: " + e, x.attack(e, true), 9 * (e + 1));
        }
        for (int e = 0; e < 16; e++) {
            due.is("out: " + e, x.attack(e, false), 135 - 9 * e);
        }
        PathInterdiction y = Texts.loaded("ab1+1:1 ab1+1:9");
        due.is("the cost 1", y.attack(0, true), 1);
        due.is("1 and 9", y.attack(1, true), 10);
        due.is("9 is left", y.attack(0, false), 9);
        due.is("count(2)", y.count(2), 9);
    }

    private static void badComesFirst(Due due) {
        Ask.refuses(due, "no edges, on", BAD, Benches::fresh, x -> x.attack(0, true));
        Ask.refuses(due, "no edges, off: it is in no attack either", BAD, Benches::fresh, x -> x.attack(0, false));
        Ask.refuses(due, "edge 5 of five, off", BAD, Benches::some, x -> x.attack(5, false));
        Ask.refuses(due, "edge 16 of 16, off", BAD, Benches::full, x -> x.attack(16, false));
        Ask.isBad(due, "edge -1, off", x -> x.attack(-1, false));
        // Edge 32 must not be taken for edge 0, which is attacked.
        Ask.refuses(due, "edge 32, on", BAD, Benches::full, x -> x.attack(32, true));
        Ask.refuses(due, "edge 32, off", BAD, Benches::full, x -> x.attack(32, false));
    }

    private static void refusesTwice(Due due) {
        for (int e = 0; e < 16; e++) {
            int edge = e;
            boolean in = (Benches.FULL_ATTACK >> e & 1) != 0;
            if (in) {
                Ask.refuses(due, "attack(" + e + ", true)", STATE, Benches::full, x -> x.attack(edge, true));
            }
        }
        PathInterdiction x = Texts.loaded("ab1+1:1");
        due.is("once", x.attack(0, true), 1);
        due.is("twice", x.attack(0, true), STATE);
        due.is("it stays in", x.edge(0, 5), 1);
    }

    private static void refusesToTakeOutTwice(Due due) {
        for (int e = 0; e < 16; e++) {
            int edge = e;
            boolean in = (Benches.FULL_ATTACK >> e & 1) != 0;
            if (!in) {
                Ask.refuses(due, "attack(" + e + ", false)", STATE, Benches::full, x -> x.attack(edge, false));
            }
        }
        PathInterdiction x = Texts.loaded("ab1+1:1");
        due.is("never in", x.attack(0, false), STATE);
        x.attack(0, true);
        due.is("once", x.attack(0, false), 0);
        due.is("twice", x.attack(0, false), STATE);
        due.is("it stays out", x.edge(0, 5), 0);
    }
}
