/** Promises 9 to 15. */
public final class MenTest {
    public static void main(String[] args) {
        man();
        where();
        go();
        hear();
        stay();
        pass();
        food();
        Due.end();
    }

    /** SHOP 0, KITCHEN 1 (3 WINDOWS, 10 MEALS), SHOP 2, GATE 3 of 0 and 1, GATE 4 of 1 and 2. */
    private static SitDown rowOfShops() {
        SitDown x = new SitDown();
        x.hold(1, 0);
        x.hold(2, 310);
        x.hold(1, 0);
        x.hold(3, 1);
        x.hold(3, 102);
        return x;
    }

    private static void man() {
        SitDown x = rowOfShops();
        Due.is("9 man", x.man(0, 0), 0);
        Due.is("9 man", x.man(1, 9999), 1);
        Due.is("9 man", x.man(0, 10000), Due.BEYOND);
        Due.is("9 man", x.man(0, -1), Due.BEYOND);
        Due.is("9 man", x.man(5, 0), Due.BEYOND);
        Due.is("9 man", x.man(-1, 0), Due.BEYOND);
        Due.is("9 man", x.man(3, 0), Due.KIND);
        Due.is("9 state comes before kind", x.man(3, -1), Due.BEYOND);
        for (int m = 2; m < 16; m++) {
            Due.is("9 man", x.man(2, 100), m);
        }
        Due.is("9 the 17th", x.man(2, 100), Due.FULL);
        Due.is("9 kind comes before full", x.man(3, 100), Due.KIND);
        Due.is("9 count", x.count(2), 16);
    }

    private static void where() {
        SitDown x = rowOfShops();
        x.man(2, 4567);
        Due.is("10 shop", x.where(0, 0), 2);
        Due.is("10 will", x.where(0, 1), 45);
        Due.is("10 owes", x.where(0, 2), 67);
        Due.is("10 hunger", x.where(0, 3), 0);
        Due.is("10 what", x.where(0, 4), Due.BEYOND);
        Due.is("10 what", x.where(0, -1), Due.BEYOND);
        Due.is("10 man", x.where(1, 0), Due.BEYOND);
        Due.is("10 man", x.where(-1, 0), Due.BEYOND);
        x.tick(3);
        Due.is("10 hunger", x.where(0, 3), 3);
        x.man(2, 99);
        x.tick(1);
        Due.is("10 away", x.where(1, 0), -1);
    }

    private static void go() {
        SitDown x = rowOfShops();
        x.man(0, 9900);
        Due.is("11 gate not held", x.go(0, 1), Due.NONE);
        Due.is("11 it is there", x.go(0, 0), 0);
        x.take(3);
        Due.is("11 two gates", x.go(0, 2), Due.NONE);
        x.man(2, 9900);
        x.take(4);
        Due.is("11 two gates", x.go(0, 2), 1);
        Due.is("11 it is there", x.go(0, 2), 0);
        Due.is("11 where", x.where(0, 0), 2);
        Due.is("11 back", x.go(0, 0), 1);
        Due.is("11 no man", x.go(2, 0), Due.BEYOND);
        Due.is("11 no man", x.go(-1, 0), Due.BEYOND);
        Due.is("11 no hold", x.go(0, 5), Due.BEYOND);
        Due.is("11 no hold", x.go(0, -1), Due.BEYOND);
        Due.is("11 no shop", x.go(0, 3), Due.KIND);
        x.man(0, 99);
        x.tick(1);
        Due.is("11 away", x.go(2, 0), Due.STATE);
        Due.is("11 kind comes before away", x.go(2, 4), Due.KIND);
        SitDown y = new SitDown();
        y.hold(1, 0);
        y.hold(1, 0);
        y.hold(3, 99);
        y.hold(3, 199);
        y.man(0, 9900);
        y.man(1, 9900);
        y.take(2);
        y.take(3);
        Due.is("11 not by the street", y.go(0, 1), Due.NONE);
    }

    private static void hear() {
        SitDown x = rowOfShops();
        x.man(0, 5000);
        Due.is("12 hear", x.hear(0, 20), 70);
        Due.is("12 hear", x.hear(0, -20), 50);
        Due.is("12 hear", x.hear(0, 0), 50);
        Due.is("12 hear", x.hear(0, 21), Due.BEYOND);
        Due.is("12 hear", x.hear(0, -21), Due.BEYOND);
        Due.is("12 hear", x.hear(1, 0), Due.BEYOND);
        Due.is("12 hear", x.hear(-1, 0), Due.BEYOND);
        Due.is("12 will stays", x.where(0, 1), 50);
        x.hear(0, 20);
        x.hear(0, 20);
        Due.is("12 most", x.hear(0, 20), 99);
        for (int i = 0; i < 4; i++) {
            x.hear(0, -20);
        }
        Due.is("12 least", x.hear(0, -20), 0);
        x.man(0, 99);
        x.tick(1);
        Due.is("12 away", x.hear(1, 5), Due.STATE);
        Due.is("12 beyond comes before away", x.hear(1, -21), Due.BEYOND);
    }

    private static void stay() {
        SitDown x = rowOfShops();
        x.man(0, 510);
        // HUNGER is 12 in HOUR 11; WILL 5 is 0, below 1, in HOUR 15
        Due.is("13 stay", x.stay(0), 15);
        x.man(0, 9909);
        Due.is("13 a tenth of 9 is 0", x.stay(1), Due.NONE);
        x.man(0, 99);
        Due.is("13 now", x.stay(2), 0);
        x.man(0, 950);
        // WILL 8 behind HOUR 0, 7 in HOUR 11, 4 in HOUR 14
        Due.is("13 debts", x.stay(3), 14);
        x.man(0, 949);
        // no debts of 50: WILL 9, 8 in HOUR 11, 3 in HOUR 16
        Due.is("13 debts below 50", x.stay(4), 16);
        Due.is("13 no man", x.stay(5), Due.BEYOND);
        Due.is("13 no man", x.stay(-1), Due.BEYOND);
        Due.is("13 no text were there", Due.text(x, 0, "bar leave"), 0);
        Due.is("13 no text were there", x.stay(2), 0);
        Due.is("13 a shop of warmth", x.of(0, 3), 12);
        x.tick(8);
        // WARMTH is 4 now and stays so
        Due.is("13 hunger goes on", x.where(1, 3), 8);
        Due.is("13 cold", x.where(0, 1), 4);
        // WILL by cold 3, 2, 1 in HOURS 8, 9, 10, by cold and hunger 0 in HOUR 11
        Due.is("13 cold", x.stay(0), 11);
        Due.is("13 the bar holds", x.where(2, 0), 0);
        x.shares(0);
        x.tick(1);
        Due.is("13 away", x.stay(2), Due.STATE);
        longStay();
    }

    private static void longStay() {
        SitDown x = new SitDown();
        x.hold(1, 0);
        x.hold(4, 0);
        x.man(0, 9799);
        // by debts in HOURS 0, 24, 48, 72, 96 and by hunger from HOUR 11 on: WILL behind HOUR 94 is 97 - 4 - 84 = 9
        Due.is("13 far off", x.stay(0), 95);
        x.hear(0, 2);
        // HOUR 95: 99 - 4 - 85 = 10; HOUR 96: 8
        Due.is("13 far off", x.stay(0), 96);
        x.man(0, 9920);
        // WILL behind HOUR 99 is 99 - 89 = 10
        Due.is("13 beyond sight", x.stay(1), Due.NONE);
        x.man(0, 9010);
        Due.is("13 the last in sight", x.stay(2), Due.NONE);
        x.hear(2, -2);
        Due.is("13 will 88 less 88", x.stay(2), 98);
        x.hear(2, 1);
        Due.is("13 the last in sight", x.stay(2), 99);
        for (int i = 0; i < 9; i++) {
            x.tick(99);
        }
        x.tick(68);
        x.man(0, 9010);
        Due.is("13 hours above 959", x.count(9), 959);
        // debts below 50; HUNGER 12 in HOUR 970
        x.hear(3, -20);
        x.hear(3, -20);
        x.hear(3, -20);
        x.hear(3, -20);
        Due.is("13 hours above 959", x.stay(3), 979);
    }

    private static void pass() {
        SitDown x = rowOfShops();
        Due.is("14 pass", x.pass(1, 2), 12);
        Due.is("14 pass", x.pass(1, 2), Due.SIZE);
        Due.is("14 pass", x.pass(1, 1), 13);
        Due.is("14 none more", x.pass(1, 0), 13);
        Due.is("14 none more", x.pass(1, 1), Due.SIZE);
        x.tick(1);
        Due.is("14 the next hour", x.pass(1, 3), 16);
        Due.is("14 n", x.pass(1, 10), Due.BEYOND);
        Due.is("14 n", x.pass(1, -1), Due.BEYOND);
        Due.is("14 no hold", x.pass(5, 1), Due.BEYOND);
        Due.is("14 no hold", x.pass(-1, 1), Due.BEYOND);
        Due.is("14 no kitchen", x.pass(0, 1), Due.KIND);
        Due.is("14 n comes before kind", x.pass(0, 10), Due.BEYOND);
        Due.text(x, 0, "bar pass when hour=2");
        x.tick(1);
        Due.is("14 barred", x.pass(1, 1), Due.STATE);
        Due.is("14 barred comes before size", x.pass(1, 9), Due.STATE);
        x.tick(1);
        Due.is("14 not barred", x.pass(1, 1), 17);
        SitDown y = new SitDown();
        y.hold(2, 998);
        Due.is("14 above 99", y.pass(0, 2), Due.SIZE);
        Due.is("14 99", y.pass(0, 1), 99);
        Due.is("14 above 99", y.pass(0, 1), Due.SIZE);
        Due.is("14 nine windows", y.pass(0, 9), Due.SIZE);
    }

    private static void food() {
        SitDown x = rowOfShops();
        x.hold(2, 507);
        Due.is("15 no men", x.food(0), Due.NONE);
        x.man(0, 9900);
        Due.is("15 no kitchen", x.food(0), 0);
        Due.is("15 no men", x.food(1), Due.NONE);
        x.take(3);
        Due.is("15 by a gate", x.food(0), 10);
        Due.is("15 by a gate", x.food(1), 10);
        x.man(1, 9900);
        x.man(1, 9900);
        Due.is("15 cut", x.food(0), 3);
        Due.is("15 hold", x.food(3), Due.KIND);
        Due.is("15 hold", x.food(6), Due.BEYOND);
        Due.is("15 hold", x.food(-1), Due.BEYOND);
        x.hold(3, 501);
        x.take(6);
        Due.is("15 two kitchens", x.food(0), 5);
        x.man(1, 99);
        x.tick(1);
        Due.is("15 one is away", x.food(0), 5);
    }
}
