/** Promises 16 to 20. */
public final class GatesTest {
    public static void main(String[] args) {
        reach();
        whistle();
        force();
        take();
        guard();
        Due.end();
    }

    /** SHOPS 0 to 3 in a row, a MAN in each; GATES 4, 5, 6 between them, GATE 7 from SHOP 3 to THE STREET. */
    private static SitDown row() {
        SitDown x = new SitDown();
        for (int i = 0; i < 4; i++) {
            x.hold(1, 0);
        }
        x.hold(3, 1);
        x.hold(3, 201);
        x.hold(3, 203);
        x.hold(3, 399);
        for (int i = 0; i < 4; i++) {
            x.man(i, 9900);
        }
        return x;
    }

    private static void reach() {
        SitDown x = row();
        Due.is("16 itself", x.reach(2), 4);
        x.take(5);
        Due.is("16 one gate", x.reach(2), 6);
        Due.is("16 both ways", x.reach(1), 6);
        Due.is("16 not through", x.reach(0), 1);
        x.take(4);
        x.take(6);
        x.take(7);
        for (int i = 0; i < 4; i++) {
            Due.is("16 all", x.reach(i), 15);
        }
        x.guard(5, 99);
        Due.is("16 a gate lost", x.reach(0), 3);
        Due.is("16 a gate lost", x.reach(3), 12);
        Due.is("16 gate", x.reach(4), Due.KIND);
        Due.is("16 none", x.reach(8), Due.BEYOND);
        Due.is("16 none", x.reach(-1), Due.BEYOND);
        longRow();
    }

    private static void longRow() {
        SitDown x = new SitDown();
        for (int i = 0; i < 8; i++) {
            x.hold(1, 0);
        }
        for (int i = 7; i > 0; i--) {
            x.hold(3, 100 * (i - 1) + i);
        }
        x.man(0, 9900);
        for (int g = 14; g >= 8; g--) {
            Due.is("16 a long row", x.take(g), 1);
        }
        Due.is("16 a long row", x.reach(0), 255);
        Due.is("16 a long row", x.reach(7), 255);
        Due.is("17 a long row", x.whistle(7, 6), 0);
        Due.is("17 a long row", x.whistle(7, 7), 1);
        Due.is("17 a long row", x.whistle(7, 9), 1);
    }

    private static void whistle() {
        SitDown x = row();
        x.man(1, 9900);
        Due.is("17 no gate", x.whistle(1, 0), 2);
        Due.is("17 none held", x.whistle(1, 9), 2);
        x.take(4);
        x.take(5);
        x.take(6);
        Due.is("17 no gate", x.whistle(1, 0), 2);
        Due.is("17 one", x.whistle(1, 1), 4);
        Due.is("17 two", x.whistle(1, 2), 5);
        Due.is("17 one from the end", x.whistle(0, 1), 3);
        Due.is("17 two from the end", x.whistle(0, 2), 4);
        Due.is("17 three from the end", x.whistle(0, 3), 5);
        Due.is("17 gates", x.whistle(0, 10), Due.BEYOND);
        Due.is("17 gates", x.whistle(0, -1), Due.BEYOND);
        Due.is("17 none", x.whistle(8, 1), Due.BEYOND);
        Due.is("17 none", x.whistle(-1, 1), Due.BEYOND);
        Due.is("17 gate", x.whistle(4, 1), Due.KIND);
        Due.is("17 gates come before kind", x.whistle(4, 10), Due.BEYOND);
    }

    private static void force() {
        SitDown x = row();
        Due.is("18 both sides", x.force(4), 2);
        Due.is("18 the street", x.force(7), 1);
        x.take(6);
        Due.is("18 through a gate", x.force(7), 2);
        Due.is("18 each once", x.force(6), 2);
        Due.is("18 through a gate", x.force(5), 3);
        Due.is("18 through a gate", x.force(4), 2);
        x.man(3, 99);
        Due.is("18 one more", x.force(7), 3);
        x.tick(1);
        Due.is("18 one away", x.force(7), 2);
        Due.is("18 shop", x.force(0), Due.KIND);
        Due.is("18 none", x.force(8), Due.BEYOND);
        Due.is("18 none", x.force(-1), Due.BEYOND);
    }

    private static void take() {
        SitDown x = row();
        x.guard(4, 3);
        Due.is("19 too many guards", x.take(4), Due.NONE);
        Due.is("19 guards stay", x.of(4, 9), 3);
        x.guard(4, 2);
        Due.is("19 as many", x.take(4), 2);
        Due.is("19 held", x.of(4, 8), 1);
        Due.is("19 guards gone", x.of(4, 9), 0);
        Due.is("19 held already", x.take(4), Due.STATE);
        Due.is("19 the street", x.take(7), 1);
        Due.is("19 count", x.count(10), 2);
        Due.is("19 shop", x.take(0), Due.KIND);
        Due.is("19 none", x.take(8), Due.BEYOND);
        Due.is("19 none", x.take(-1), Due.BEYOND);
        Due.text(x, 0, "bar take when men>1");
        x.man(2, 9900);
        Due.is("19 barred at shop a", x.take(5), Due.STATE);
        x.guard(5, 99);
        Due.is("19 barred comes before none", x.take(5), Due.STATE);
        x.guard(5, 0);
        x.man(3, 9900);
        x.shares(0);
        Due.is("19 no more", x.take(5), 4);
        Due.text(x, 1, "bar take when men=0");
        x.hold(1, 0);
        x.hold(3, 800);
        x.hold(3, 8);
        Due.is("19 barred at a, not b", x.take(9), Due.STATE);
        Due.is("19 barred at a, not b", x.take(10), 4);
        SitDown y = new SitDown();
        y.hold(1, 0);
        y.hold(3, 99);
        Due.is("19 nobody", y.take(1), Due.NONE);
    }

    private static void guard() {
        SitDown x = row();
        Due.is("20 not held", x.guard(4, 5), 1);
        Due.is("20 not held", x.of(4, 9), 5);
        Due.is("20 none", x.guard(4, 0), 1);
        x.take(4);
        Due.is("20 as many", x.guard(4, 2), 0);
        Due.is("20 gone", x.of(4, 9), 0);
        Due.is("20 held", x.of(4, 8), 1);
        Due.is("20 more", x.guard(4, 3), 1);
        Due.is("20 guards", x.of(4, 9), 3);
        Due.is("20 not held", x.of(4, 8), 0);
        x.guard(4, 0);
        x.man(0, 99);
        x.take(4);
        x.take(7);
        Due.is("20 none against one", x.guard(7, 0), 0);
        x.tick(1);
        Due.is("20 two left", x.guard(4, 2), 0);
        Due.is("20 n", x.guard(4, 100), Due.BEYOND);
        Due.is("20 n", x.guard(4, -1), Due.BEYOND);
        Due.is("20 none", x.guard(8, 1), Due.BEYOND);
        Due.is("20 none", x.guard(-1, 1), Due.BEYOND);
        Due.is("20 shop", x.guard(0, 1), Due.KIND);
        Due.is("20 n comes before kind", x.guard(0, 100), Due.BEYOND);
        Due.is("20 99", x.guard(4, 99), 1);
        SitDown y = new SitDown();
        y.hold(1, 0);
        y.hold(3, 99);
        y.man(0, 9);
        y.man(0, 10);
        y.take(1);
        y.tick(1);
        Due.is("20 one left", y.force(1), 1);
        Due.is("20 one against one", y.guard(1, 1), 0);
        SitDown z = new SitDown();
        z.hold(1, 0);
        z.hold(3, 99);
        z.man(0, 10);
        z.take(1);
        z.tick(1);
        Due.is("20 nobody left", z.force(1), 0);
        Due.is("20 none against nobody", z.guard(1, 0), 0);
        Due.is("20 one against nobody", z.guard(1, 1), 1);
    }
}
