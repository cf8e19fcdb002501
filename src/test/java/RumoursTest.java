/** Promises 33 to 37. */
public final class RumoursTest {
    public static void main(String[] args) {
        rumour();
        out();
        squads();
        believe();
        believeByFractions();
        feint();
        feintOfTheLeast();
        Due.end();
    }

    /** SHOP 0 and GATES 1 to 3 to THE STREET. */
    private static SitDown threeGates() {
        SitDown x = new SitDown();
        x.hold(1, 0);
        x.hold(3, 99);
        x.hold(3, 99);
        x.hold(3, 99);
        return x;
    }

    private static void rumour() {
        SitDown x = threeGates();
        Due.is("33 rumour", x.rumour(1, 1), 0);
        Due.is("33 rumour", x.rumour(1, 9), 1);
        Due.is("33 credit", x.rumour(1, 0), Due.BEYOND);
        Due.is("33 credit", x.rumour(1, 10), Due.BEYOND);
        Due.is("33 hold", x.rumour(4, 1), Due.BEYOND);
        Due.is("33 hold", x.rumour(-1, 1), Due.BEYOND);
        Due.is("33 no gate", x.rumour(0, 1), Due.KIND);
        Due.is("33 credit comes before kind", x.rumour(0, 10), Due.BEYOND);
        for (int r = 2; r < 6; r++) {
            Due.is("33 rumour", x.rumour(2, 3), r);
        }
        Due.is("33 the seventh", x.rumour(2, 3), Due.FULL);
        Due.is("33 kind comes before full", x.rumour(0, 3), Due.KIND);
        Due.is("33 count", x.count(8), 6);
    }

    private static void out() {
        SitDown x = threeGates();
        x.rumour(1, 1);
        Due.is("34 out", x.out(0, false), 0);
        Due.is("34 out", x.out(0, true), 1);
        Due.is("34 out", x.out(0, true), 0);
        Due.is("34 out", x.out(0, false), 1);
        Due.is("34 none", x.out(1, true), Due.BEYOND);
        Due.is("34 none", x.out(-1, true), Due.BEYOND);
    }

    private static void squads() {
        SitDown x = new SitDown();
        Due.is("35 squads", x.squads(9), 0);
        Due.is("35 squads", x.squads(10), Due.BEYOND);
        Due.is("35 squads", x.squads(-1), Due.BEYOND);
        Due.is("35 count", x.count(13), 9);
        Due.is("35 squads", x.squads(0), 9);
    }

    private static void guards(SitDown x, int first, int second, int third) {
        Due.is("36 guards of 1", x.of(1, 9), first);
        Due.is("36 guards of 2", x.of(2, 9), second);
        Due.is("36 guards of 3", x.of(3, 9), third);
    }

    private static void believe() {
        SitDown x = threeGates();
        x.guard(1, 5);
        x.guard(3, 9);
        x.squads(2);
        Due.is("36 no rumour: all guards go", x.believe(), 2);
        guards(x, 0, 0, 0);
        x.rumour(3, 2);
        x.rumour(2, 2);
        x.out(0, true);
        Due.is("36 to the gate of the rumour", x.believe(), 1);
        guards(x, 0, 0, 18);
        Due.is("36 the same again", x.believe(), 0);
        x.out(1, true);
        Due.is("36 one each", x.believe(), 2);
        guards(x, 0, 9, 9);
        x.squads(1);
        Due.is("36 of like ones the least gate", x.believe(), 1);
        guards(x, 0, 9, 0);
        x.man(0, 9900);
        x.guard(2, 0);
        x.take(2);
        Due.is("36 not to one that is held", x.believe(), 1);
        guards(x, 0, 0, 9);
        Due.is("36 held", x.of(2, 8), 1);
        x.out(0, false);
        x.guard(1, 4);
        Due.is("36 credit for one that is held alone", x.believe(), 2);
        guards(x, 0, 0, 0);
        x.squads(9);
        x.out(0, true);
        x.believe();
        guards(x, 0, 0, 81);
        x.squads(0);
        Due.is("36 no squads", x.believe(), 1);
        guards(x, 0, 0, 0);
        SitDown y = threeGates();
        y.rumour(2, 1);
        y.out(0, true);
        y.squads(1);
        Due.is("36 a credit of 1", y.believe(), 1);
        guards(y, 0, 9, 0);
    }

    private static void believeByFractions() {
        SitDown x = threeGates();
        x.rumour(1, 3);
        x.rumour(2, 9);
        x.rumour(3, 4);
        x.rumour(1, 3);
        for (int r = 0; r < 4; r++) {
            x.out(r, true);
        }
        // credits 6, 9, 4: 9 to 2, then 6 to 1, 9/2 to 2, 4 to 3, then 9/3 and 6/2 are like: 1, then 2, ..
        int[][] due = {{0, 1, 0}, {1, 1, 0}, {1, 2, 0}, {1, 2, 1}, {2, 2, 1}, {2, 3, 1}, {2, 4, 1}, {3, 4, 1}, {3, 4, 2}};
        for (int n = 1; n <= 9; n++) {
            x.squads(n);
            x.believe();
            guards(x, 9 * due[n - 1][0], 9 * due[n - 1][1], 9 * due[n - 1][2]);
        }
    }

    private static void feint() {
        SitDown x = threeGates();
        Due.is("37 nobody", x.feint(1), Due.NONE);
        x.man(0, 9900);
        Due.is("37 none is wanted", x.feint(1), 0);
        x.guard(1, 50);
        Due.is("37 squads, not the guards of now", x.feint(1), 0);
        x.squads(1);
        x.rumour(1, 5);
        x.rumour(2, 4);
        x.rumour(2, 2);
        x.rumour(3, 6);
        x.out(0, true);
        Due.is("37 one", x.feint(1), 8);
        Due.is("37 another gate", x.feint(2), 0);
        x.squads(2);
        // 5 and 6: one each; with 4 and 2 as well: 6 to 2, 6 to 3
        Due.is("37 three", x.feint(1), 14);
        x.squads(3);
        Due.is("37 no set does", x.feint(1), Due.NONE);
        x.out(0, false);
        Due.is("37 without its rumour", x.feint(1), 0);
        Due.is("37 shop", x.feint(0), Due.KIND);
        Due.is("37 none", x.feint(4), Due.BEYOND);
        Due.is("37 none", x.feint(-1), Due.BEYOND);
        x.guard(1, 0);
        x.take(1);
        Due.is("37 held", x.feint(1), Due.STATE);
        Due.is("37 nothing is out", x.out(3, false), 0);
    }

    private static void feintOfTheLeast() {
        SitDown x = threeGates();
        for (int m = 0; m < 9; m++) {
            x.man(0, 9900);
        }
        x.rumour(1, 9);
        x.rumour(2, 1);
        x.rumour(2, 5);
        x.rumour(3, 5);
        x.out(0, true);
        x.squads(1);
        Due.is("37 nine men for one squad", x.feint(1), 0);
        x.squads(2);
        // 9, then 9/2 against 5: one of 2 and 3, the least as bits
        Due.is("37 of like ones the least", x.feint(1), 4);
        x.man(0, 9900);
        Due.is("37 ten men for two squads", x.feint(1), 4);
        x.out(2, true);
        Due.is("37 with those that are out", x.feint(1), 0);
        x.squads(3);
        Due.is("37 one more", x.feint(1), 8);
        x.squads(0);
        Due.is("37 no squads", x.feint(1), 0);
        SitDown y = threeGates();
        y.man(0, 9900);
        y.rumour(2, 5);
        y.rumour(1, 4);
        y.out(1, true);
        y.squads(1);
        Due.is("37 rumour 0", y.feint(1), 1);
    }
}
