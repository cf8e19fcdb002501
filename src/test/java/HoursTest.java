/** Promises 47 to 49, and how an HOUR is closed (section 4). */
public final class HoursTest {
    public static void main(String[] args) {
        tick();
        warmthAndWater();
        meals();
        will();
        leaving();
        makingAndWorks();
        book();
        check();
        Due.end();
    }

    private static void tick() {
        SitDown x = new SitDown();
        Due.is("47 n", x.tick(0), Due.BEYOND);
        Due.is("47 n", x.tick(100), Due.BEYOND);
        Due.is("47 n", x.tick(-1), Due.BEYOND);
        Due.is("47 tick", x.tick(1), 1);
        Due.is("47 tick", x.tick(99), 100);
        for (int i = 2; i <= 9; i++) {
            Due.is("47 tick", x.tick(99) + i - 1, 100 * i);
        }
        Due.is("47 the open one", x.count(9), 892);
        Due.is("47 above 959", x.tick(68), Due.FULL);
        Due.is("47 nothing is closed", x.count(9), 892);
        Due.is("47 959", x.tick(67), 959);
        Due.is("47 above 959", x.tick(1), Due.FULL);
        Due.is("47 n comes before full", x.tick(100), Due.BEYOND);
        Due.is("48 day 38", x.book(38, 0), 0);
        Due.is("48 day 39", x.book(39, 0), Due.NONE);
    }

    private static void warmthAndWater() {
        SitDown x = new SitDown();
        x.hold(1, 0);
        x.hold(2, 100);
        x.hold(1, 0);
        x.hold(4, 0);
        x.hold(4, 101);
        x.tick(1);
        Due.is("47 heat", x.of(0, 3), 13);
        Due.is("47 no heat", x.of(1, 3), 11);
        Due.is("47 no heat", x.of(2, 3), 11);
        x.tick(9);
        Due.is("47 not yet flooded", x.of(1, 3), 2);
        Due.is("47 not yet flooded", x.of(1, 4), 0);
        Due.is("47 20 at most", x.of(0, 3), 20);
        x.tick(1);
        Due.is("47 flooded at 1", x.of(1, 4), 1);
        Due.is("47 no water there", x.of(2, 4), 0);
        Due.is("47 towards outside", x.of(1, 3), 1);
        x.tick(5);
        Due.is("47 0", x.of(1, 3), 0);
        x.hold(5, 1);
        x.shut(5, false);
        x.tick(1);
        Due.is("47 a main that is shut", x.of(2, 4), 0);
        x.shut(5, true);
        x.tick(1);
        Due.is("47 a main of water", x.of(2, 4), 1);
        Due.is("47 warm", x.of(0, 4), 0);
        x.hold(5, 0);
        x.tick(3);
        Due.is("47 a main of heat", x.of(2, 3), 3);
        Due.is("47 flooded still", x.of(2, 4), 1);
        x.shut(6, false);
        x.outside(3);
        x.tick(1);
        Due.is("47 as outside", x.of(2, 3), 3);
        x.outside(9);
        x.tick(1);
        Due.is("47 up to outside", x.of(2, 3), 4);
        SitDown y = new SitDown();
        y.hold(1, 0);
        y.hold(5, 1);
        y.outside(1);
        y.tick(11);
        Due.is("47 flooded by the warmth behind it", y.of(0, 4), 1);
        SitDown z = new SitDown();
        z.hold(5, 0);
        z.hold(1, 0);
        z.tick(1);
        Due.is("47 a main that was there before the shop", z.of(1, 3), 13);
    }

    private static void meals() {
        SitDown x = new SitDown();
        x.hold(5, 0);
        x.hold(1, 0);
        x.hold(2, 101);
        x.hold(2, 102);
        x.hold(3, 102);
        x.hold(3, 103);
        x.hold(1, 0);
        x.man(1, 2000);
        x.man(1, 9800);
        x.take(4);
        x.take(5);
        x.man(6, 5000);
        x.tick(6);
        Due.is("47 hunger", x.where(0, 3), 6);
        Due.is("47 no meals yet", x.of(2, 7), 1);
        x.tick(1);
        Due.is("47 eaten", x.where(0, 3), 0);
        Due.is("47 eaten", x.where(0, 1), 23);
        Due.is("47 99 at most", x.where(1, 1), 99);
        Due.is("47 cannot come there", x.where(2, 3), 7);
        Due.is("47 cannot come there", x.where(2, 1), 50);
        Due.is("47 the least kitchen", x.of(2, 7), 0);
        Due.is("47 then the next", x.of(3, 7), 1);
        x.tick(6);
        Due.is("47 the first eats", x.where(0, 3), 0);
        Due.is("47 the second does not", x.where(1, 3), 6);
        Due.is("47 none left", x.of(3, 7), 0);
        x.pass(2, 1);
        x.tick(5);
        Due.is("47 not before 18", x.of(2, 7), 1);
        x.tick(1);
        Due.is("47 at 18", x.of(2, 7), 0);
        x.pass(2, 1);
        x.tick(11);
        Due.is("47 not at 0", x.of(2, 7), 1);
        x.tick(1);
        Due.is("47 at 6 of the next day", x.of(2, 7), 0);
        x.tick(99);
        Due.is("47 hunger is 99 at most", x.where(0, 3), 99);
        Due.is("47 hunger is 99 at most", x.where(2, 3), 99);
    }

    private static void will() {
        SitDown x = new SitDown();
        x.hold(1, 0);
        x.hold(5, 0);
        x.hold(5, 1);
        x.man(0, 5049);
        x.man(0, 5050);
        x.tick(1);
        Due.is("47 debts below 50", x.where(0, 1), 50);
        Due.is("47 debts", x.where(1, 1), 49);
        x.tick(10);
        Due.is("47 hunger 11", x.where(0, 1), 50);
        x.tick(1);
        Due.is("47 hunger 12", x.where(0, 1), 49);
        Due.is("47 hunger 12", x.where(1, 1), 48);
        x.tick(12);
        Due.is("47 hunger", x.where(0, 1), 37);
        x.tick(1);
        Due.is("47 debts and hunger", x.where(1, 1), 34);
        x.shut(1, false);
        x.tick(15);
        Due.is("47 warmth 5", x.of(0, 3), 5);
        Due.is("47 warmth 5", x.where(0, 1), 21);
        x.tick(1);
        Due.is("47 warmth 4", x.where(0, 1), 19);
        x.tick(2);
        Due.is("47 warmth 2", x.where(0, 1), 15);
        x.tick(1);
        Due.is("47 flooded", x.where(0, 1), 11);
        Due.is("47 flooded", x.of(0, 4), 1);
        Due.text(x, 0, "bar leave");
        x.tick(5);
        Due.is("47 not below 0", x.where(0, 1), 0);
        Due.is("47 barred", x.where(0, 0), 0);
    }

    private static void leaving() {
        SitDown x = new SitDown();
        x.hold(1, 5);
        x.run(0, true);
        x.man(0, 9);
        x.man(0, 10);
        x.man(0, 110);
        x.man(0, 119);
        x.man(0, 120);
        x.tick(1);
        Due.is("47 a tenth of 9 is 0", x.where(0, 0), 0);
        Due.is("47 0 is below 1", x.where(1, 0), -1);
        Due.is("47 1 is not below 1", x.where(2, 0), 0);
        Due.is("47 a tenth is cut", x.where(3, 0), 0);
        Due.is("47 1 is below 2", x.where(4, 0), -1);
        Due.is("47 away it hungers not", x.where(1, 3), 1);
        x.tick(3);
        Due.is("47 away it hungers not", x.where(1, 3), 1);
        Due.is("47 in shops", x.count(3), 3);
        SitDown y = new SitDown();
        y.hold(1, 5);
        y.hold(1, 105);
        y.run(0, true);
        y.run(1, true);
        for (int m = 0; m < 4; m++) {
            y.man(0, 10);
        }
        y.man(1, 10);
        Due.text(y, 0, "bar leave when men<3&hour=0");
        y.tick(1);
        // one by one: two go, then the shop has two men
        Due.is("47 the first goes", y.where(0, 0), -1);
        Due.is("47 the second goes", y.where(1, 0), -1);
        Due.is("47 the third is barred", y.where(2, 0), 0);
        Due.is("47 the fourth is barred", y.where(3, 0), 0);
        Due.is("47 barred in the other shop", y.where(4, 0), 1);
        Due.is("47 men are in it", y.part(0), 0);
        y.tick(1);
        Due.is("47 barred no more", y.count(3), 0);
        Due.is("47 it makes in the hour in which they went", y.part(0), 5);
        Due.is("47 it makes in the hour in which they went", y.part(1), 5);
        SitDown z = new SitDown();
        z.hold(1, 5);
        z.man(0, 10);
        Due.text(z, 0, "bar leave when warm=11");
        z.tick(1);
        Due.is("47 the warmth behind (1)", z.where(0, 0), 0);
        z.tick(1);
        Due.is("47 the warmth behind (1)", z.where(0, 0), -1);
    }

    private static void makingAndWorks() {
        SitDown x = new SitDown();
        x.hold(1, 4);
        x.hold(1, 3);
        x.hold(1, 102);
        x.hold(2, 199);
        for (int s = 0; s < 4; s++) {
            x.run(s, true);
        }
        x.run(1, false);
        Due.is("56 those that make", x.count(11), 2);
        x.work(310000);
        x.work(210000);
        x.work(0);
        x.tick(1);
        // 4 and 2: the first takes 3 and 1, the second lacks PART 0, the third needs nothing
        Due.is("47 part 0", x.part(0), 1);
        Due.is("47 part 1", x.part(1), 1);
        Due.is("47 cars", x.count(5), 2);
        x.run(1, true);
        x.tick(1);
        // 8 and 3: the first and the second take 5 and 2
        Due.is("47 part 0", x.part(0), 3);
        Due.is("47 part 1", x.part(1), 1);
        Due.is("47 cars", x.count(5), 5);
        Due.text(x, 0, "bar make when hour=2");
        x.tick(1);
        Due.is("47 barred", x.part(0), 0);
        Due.is("47 barred", x.part(1), 0);
        x.man(0, 9900);
        x.tick(1);
        Due.is("47 a man is in it", x.part(0), 0);
        x.hold(5, 1);
        x.outside(0);
        x.tick(9);
        Due.is("47 flooded", x.count(11), 0);
        int before = x.part(0);
        x.tick(1);
        Due.is("47 flooded", x.part(0), before);
        SitDown y = new SitDown();
        y.hold(1, 9);
        y.run(0, true);
        Due.sheet(y, 0, 9985, 0, 0, 0, 0, 0);
        y.stock(0);
        y.tick(1);
        Due.is("47 stock", y.part(0), 9994);
        y.tick(1);
        Due.is("47 9999 at most", y.part(0), 9999);
    }

    /** A DAY with two MEN, 7 MEALS of which six are eaten, WORKS that stand or not, one GATE. */
    private static SitDown dayClosed() {
        SitDown x = new SitDown();
        x.hold(2, 107);
        x.hold(1, 1);
        x.hold(3, 1);
        x.hold(5, 0);
        x.run(1, true);
        x.man(0, 5000);
        x.man(0, 4060);
        x.man(0, 99);
        x.take(2);
        x.work(100000);
        x.work(100000);
        x.work(10000);
        x.tick(23);
        Due.is("48 not closed", x.book(0, 0), Due.NONE);
        Due.is("49 not closed", x.check(0, 0), Due.NONE);
        x.tick(1);
        return x;
    }

    private static void book() {
        SitDown x = dayClosed();
        Due.is("48 men", x.book(0, 0), 2);
        Due.is("48 will", x.book(0, 1), 50 + 9 + 40 + 9 - 1);
        Due.is("48 meals", x.book(0, 2), 1);
        Due.is("48 cars", x.book(0, 3), 24);
        Due.is("48 stood", x.book(0, 4), 2);
        Due.is("48 gates", x.book(0, 5), 1);
        Due.is("48 what", x.book(0, 6), Due.BEYOND);
        Due.is("48 what", x.book(0, -1), Due.BEYOND);
        Due.is("48 day", x.book(40, 0), Due.BEYOND);
        Due.is("48 day", x.book(-1, 0), Due.BEYOND);
        Due.is("48 not closed", x.book(1, 0), Due.NONE);
        Due.is("48 not closed", x.book(39, 5), Due.NONE);
        x.guard(2, 99);
        Due.sheet(x, 0, 50, 0, 0, 0, 0, 0);
        x.tick(23);
        x.stock(0);
        x.tick(1);
        Due.is("48 stood in that hour alone", x.book(1, 4), 1);
        Due.is("48 cars", x.book(1, 3), 24 + 23 + 2);
        Due.is("48 gates", x.book(1, 5), 0);
        Due.is("48 it stays", x.book(0, 5), 1);
    }

    private static void check() {
        SitDown x = dayClosed();
        Due.is("49 missing", x.check(0, 1), Due.MISSING);
        Due.is("49 day", x.check(40, 1), Due.BEYOND);
        Due.is("49 day", x.check(-1, 1), Due.BEYOND);
        Due.is("49 sheet", x.check(0, 4), Due.BEYOND);
        Due.is("49 sheet", x.check(0, -1), Due.BEYOND);
        Due.is("49 sheet comes before the day", x.check(5, 4), Due.BEYOND);
        Due.is("49 none comes before missing", x.check(1, 1), Due.NONE);
        Due.is("49 day 39", x.check(39, 1), Due.NONE);
        Due.is("49 sheet 3", x.check(0, 3), Due.MISSING);
        Due.sheet(x, 1, 2, 107, 1, 24, 2);
        Due.is("49 five", x.check(0, 1), Due.SIZE);
        Due.sheet(x, 1, 2, 107, 1, 24, 2, 1, 0);
        Due.is("49 seven", x.check(0, 1), Due.SIZE);
        int[] page = {2, 107, 1, 24, 2, 1};
        Due.sheet(x, 1, page);
        Due.is("49 all are", x.check(0, 1), 6);
        for (int i = 5; i >= 0; i--) {
            x.write(1, i, page[i] + 1);
            Due.is("49 the first that is not", x.check(0, 1), i);
        }
    }
}
