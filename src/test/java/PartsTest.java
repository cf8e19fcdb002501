/** Promises 21 to 25. */
public final class PartsTest {
    public static void main(String[] args) {
        work();
        stock();
        part();
        last();
        lastStaysAsItIs();
        least();
        leastIsNotAlwaysMore();
        Due.end();
    }

    private static void work() {
        SitDown x = new SitDown();
        Due.is("21 work", x.work(123456), 0);
        Due.is("21 work", x.work(0), 1);
        Due.is("21 work", x.work(999999), 2);
        Due.is("21 work", x.work(1000000), Due.BEYOND);
        Due.is("21 work", x.work(-1), Due.BEYOND);
        Due.is("21 count", x.count(4), 3);
        x.work(1);
        x.work(1);
        Due.is("21 work", x.work(1), 5);
        Due.is("21 the seventh", x.work(1), Due.FULL);
        Due.is("21 beyond comes before full", x.work(-1), Due.BEYOND);
        Due.sheet(x, 0, 1, 2, 3, 4, 5, 6);
        x.stock(0);
        x.tick(1);
        for (int p = 0; p < 6; p++) {
            Due.is("21 the first digit is of part 0", x.part(p), 0);
        }
        Due.is("21 cars", x.count(5), 2);
    }

    private static void stock() {
        SitDown x = new SitDown();
        Due.is("22 sheet", x.stock(4), Due.BEYOND);
        Due.is("22 sheet", x.stock(-1), Due.BEYOND);
        Due.is("22 missing", x.stock(0), Due.MISSING);
        Due.sheet(x, 0, 1, 2, 3, 4, 5);
        Due.is("22 five", x.stock(0), Due.SIZE);
        Due.sheet(x, 0, 1, 2, 3, 4, 5, 6, 7);
        Due.is("22 seven", x.stock(0), Due.SIZE);
        Due.sheet(x, 1, 9999, 0, -9999, 1, -9999, 2);
        Due.is("22 stock", x.stock(1), 3);
        Due.is("22 stock again", x.stock(1), 0);
        Due.is("22 part", x.part(0), 9999);
        Due.sheet(x, 1, 10, 5, 5, 5, 5, 10000);
        Due.is("22 10000", x.stock(1), Due.BEYOND);
        Due.is("22 nothing changed", x.part(0), 9999);
        Due.sheet(x, 1, -1, 5, 5, 5, 5, 5);
        Due.is("22 the first number, too", x.stock(1), Due.BEYOND);
        Due.sheet(x, 1, 10, 5, 5, 5, 5, -9998);
        Due.is("22 -9998", x.stock(1), Due.BEYOND);
        Due.sheet(x, 1, -9999, -9999, -9999, -9999, -9999, -9999);
        Due.is("22 all stay", x.stock(1), 0);
        Due.is("22 part", x.part(5), 2);
    }

    private static void part() {
        SitDown x = new SitDown();
        Due.sheet(x, 3, 10, 11, 12, 13, 14, 15);
        x.stock(3);
        for (int p = 0; p < 6; p++) {
            Due.is("23 part", x.part(p), 10 + p);
        }
        Due.is("23 part", x.part(6), Due.BEYOND);
        Due.is("23 part", x.part(-1), Due.BEYOND);
    }

    private static void last() {
        SitDown x = new SitDown();
        x.hold(1, 2);
        x.run(0, true);
        x.work(300000);
        Due.is("24 stands at once", x.last(0, 0), 0);
        Due.is("24 lacks", x.last(0, 1), 0);
        Due.sheet(x, 0, 46, 0, 0, 0, 0, 5);
        x.stock(0);
        // HOUR h has 46 - h of before and 2 that are made: it stands when 48 - h is below 3
        Due.is("24 hour", x.last(0, 0), 46);
        Due.sheet(x, 0, 47, 0, 0, 0, 0, 5);
        x.stock(0);
        Due.is("24 the last of 48", x.last(0, 0), 47);
        Due.sheet(x, 0, 48, 0, 0, 0, 0, 5);
        x.stock(0);
        Due.is("24 beyond 48", x.last(0, 0), Due.NONE);
        Due.is("24 beyond 48", x.last(0, 1), Due.NONE);
        x.tick(1);
        Due.is("24 from the open hour on", x.last(0, 0), 48);
        Due.is("24 nothing is taken", x.part(0), 47);
        Due.is("24 nothing is made", x.count(5), 1);
        x.work(1);
        // the second takes PART 5, of which there are five
        Due.is("24 the second", x.last(1, 0), 6);
        Due.is("24 the second lacks", x.last(1, 1), 5);
        x.work(100001);
        // it takes one of PART 5, too: of 5 each takes 2, then WORKS 1 takes the last
        Due.is("24 the third", x.last(2, 0), 3);
        Due.is("24 the second", x.last(1, 0), 4);
        Due.is("24 what", x.last(0, 2), Due.BEYOND);
        Due.is("24 what", x.last(0, -1), Due.BEYOND);
        Due.is("24 no such", x.last(3, 0), Due.BEYOND);
        Due.is("24 no such", x.last(-1, 0), Due.BEYOND);
        SitDown y = new SitDown();
        y.work(0);
        Due.is("24 needs nothing", y.last(0, 0), Due.NONE);
        Due.sheet(y, 0, 5, 3, 9, 9, 9, 9);
        y.stock(0);
        y.work(220000);
        Due.is("24 lacks the least", y.last(1, 1), 1);
        y.work(210000);
        // 5,3: WORKS 1 takes 2,2, then 3,1: WORKS 2 takes 2,1; then both lack 0 of 1
        Due.is("24 lacks the least", y.last(2, 0), 1);
        Due.is("24 lacks the least", y.last(2, 1), 0);
        Due.is("24 lacks the least", y.last(1, 1), 0);
    }

    private static void lastStaysAsItIs() {
        SitDown x = new SitDown();
        x.hold(1, 5);
        x.run(0, true);
        x.work(500000);
        Due.text(x, 0, "bar make when hour=3");
        Due.is("24 texts as in the open hour", x.last(0, 0), Due.NONE);
        x.tick(3);
        Due.is("24 barred now", x.last(0, 0), 3);
        x.tick(1);
        Due.is("24 not barred now", x.last(0, 0), Due.NONE);
        x.man(0, 99);
        Due.is("24 men as in the open hour", x.last(0, 0), 4);
        x.tick(1);
        Due.is("24 stock has what the shop made when he was gone", x.count(5), 4);
        Due.sheet(x, 0, 9998, 0, 0, 0, 0, 0);
        x.stock(0);
        x.run(0, true);
        x.hold(1, 9);
        x.run(1, true);
        x.tick(1);
        Due.is("24 9999 at most", x.part(0), 9994);
    }

    private static void least() {
        SitDown x = new SitDown();
        x.hold(1, 3);
        x.hold(1, 103);
        x.hold(1, 3);
        x.hold(1, 203);
        for (int s = 0; s < 4; s++) {
            x.run(s, true);
        }
        x.work(300000);
        x.work(30000);
        x.work(3000);
        Due.is("25 two shops of part 0", x.least(1), 5);
        Due.is("25 one shop", x.least(2), 2);
        Due.is("25 one shop", x.least(4), 8);
        Due.is("25 both", x.least(6), 10);
        Due.is("25 all", x.least(7), 15);
        Due.is("25 none", x.least(0), Due.BEYOND);
        Due.is("25 below 1", x.least(-1), Due.BEYOND);
        Due.is("25 others", x.least(8), Due.BEYOND);
        Due.is("25 others", x.least(9), Due.BEYOND);
        x.run(2, false);
        Due.is("25 of those that make", x.least(1), 1);
        Due.sheet(x, 0, 200, 0, 0, 0, 0, 0);
        x.stock(0);
        Due.is("25 stock for 48", x.least(1), Due.NONE);
        Due.is("25 stock for 48", x.least(3), Due.NONE);
        Due.sheet(x, 0, 143, 0, 0, 0, 0, 0);
        x.stock(0);
        Due.is("25 stock for 47", x.least(1), 1);
        Due.sheet(x, 0, 144, 0, 0, 0, 0, 0);
        x.stock(0);
        Due.is("25 stock for 48", x.least(1), Due.NONE);
        x.work(0);
        Due.is("25 it never stands", x.least(8), Due.NONE);
        SitDown y = new SitDown();
        Due.is("25 no works", y.least(1), Due.BEYOND);
        SitDown z = new SitDown();
        z.hold(1, 1);
        z.hold(1, 1);
        z.run(0, true);
        z.run(1, true);
        z.work(200000);
        Due.is("25 the least as bits", z.least(1), 1);
        SitDown u = new SitDown();
        u.hold(1, 1);
        u.hold(1, 1);
        u.hold(1, 2);
        for (int s = 0; s < 3; s++) {
            u.run(s, true);
        }
        u.work(300000);
        Due.is("25 the fewest, though not the least as bits", u.least(1), 4);
        u.run(0, false);
        u.run(1, false);
        Due.is("25 it stands as it is, without shop 0", u.least(1), 0);
    }

    /** Without PART 1 WORKS 0 stands, and leaves PART 0 to WORKS 1. */
    private static void leastIsNotAlwaysMore() {
        SitDown x = new SitDown();
        x.hold(1, 101);
        x.hold(1, 1);
        x.run(0, true);
        x.run(1, true);
        x.work(110000);
        x.work(100000);
        Due.is("25 the second stands as it is", x.least(2), 0);
        Due.is("25 the first stands by the first shop or the second", x.least(1), 1);
        // with SHOP 0 out the first stands and the second never; with SHOP 1 out both do
        Due.is("25 both", x.least(3), 2);
    }
}
