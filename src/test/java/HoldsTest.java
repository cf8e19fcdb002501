/** Promises 1 to 8. */
public final class HoldsTest {
    public static void main(String[] args) {
        newObject();
        hold();
        holdIsFull();
        as();
        of();
        run();
        shut();
        outside();
        cold();
        Due.end();
    }

    private static void newObject() {
        SitDown x = new SitDown();
        for (int what = 0; what <= 13; what++) {
            Due.is("1 count " + what, x.count(what), 0);
        }
        Due.is("1 text on an empty tape", x.text(0, 0, 0), -1);
        Due.is("1 undo", x.undo(), Due.NONE);
        Due.is("1 tear", x.tear(), 0);
        for (int p = 0; p < 6; p++) {
            Due.is("1 part " + p, x.part(p), 0);
        }
        for (int s = 0; s < 4; s++) {
            Due.is("1 write " + s, x.write(s, 0, 0), Due.MISSING);
        }
        Due.is("1 unlike", x.unlike(), 0);
        Due.is("1 want", x.want(0) + x.want(1), 0);
        Due.is("1 play", x.play(1, 1, 5), 0);
        Due.is("1 believe", x.believe(), 0);
    }

    private static void hold() {
        SitDown x = new SitDown();
        Due.is("2 gate before shops", x.hold(3, 1), Due.BEYOND);
        Due.is("2 pipe before shops", x.hold(4, 0), Due.BEYOND);
        Due.is("2 hold", x.hold(0, 9999), 0);
        Due.is("2 hold", x.hold(0, 10000), Due.BEYOND);
        Due.is("2 hold", x.hold(0, -1), Due.BEYOND);
        Due.is("2 shop", x.hold(1, 509), 1);
        Due.is("2 shop makes 10", x.hold(1, 510), Due.BEYOND);
        Due.is("2 shop of part 6", x.hold(1, 600), Due.BEYOND);
        Due.is("2 kitchen", x.hold(2, 999), 2);
        Due.is("2 kitchen", x.hold(2, 100), 3);
        Due.is("2 kitchen of no windows", x.hold(2, 99), Due.BEYOND);
        Due.is("2 kitchen of 10", x.hold(2, 1000), Due.BEYOND);
        Due.is("2 gate", x.hold(3, 102), 4);
        Due.is("2 gate to the street", x.hold(3, 399), 5);
        Due.is("2 gate to itself", x.hold(3, 101), Due.BEYOND);
        Due.is("2 gate from no shop", x.hold(3, 99), Due.BEYOND);
        Due.is("2 gate to no shop", x.hold(3, 100), Due.BEYOND);
        Due.is("2 gate to a gate", x.hold(3, 104), Due.BEYOND);
        Due.is("2 gate to what is not there", x.hold(3, 120), Due.BEYOND);
        Due.is("2 gate from the street", x.hold(3, 9901), Due.BEYOND);
        Due.is("2 pipe", x.hold(4, 101), 6);
        Due.is("2 pipe of gas", x.hold(4, 102), Due.BEYOND);
        Due.is("2 pipe to no shop", x.hold(4, 0), Due.BEYOND);
        Due.is("2 pipe to a gate", x.hold(4, 400), Due.BEYOND);
        Due.is("2 main", x.hold(5, 1), 7);
        Due.is("2 main", x.hold(5, 2), Due.BEYOND);
        Due.is("2 main", x.hold(5, 100), Due.BEYOND);
        Due.is("2 term", x.hold(6, 9999), 8);
        Due.is("2 term", x.hold(6, 10000), Due.BEYOND);
        Due.is("2 kind 7", x.hold(7, 0), Due.BEYOND);
        Due.is("2 kind -1", x.hold(-1, 0), Due.BEYOND);
        Due.is("2 extremes", x.hold(0, Due.MIN), Due.BEYOND);
        Due.is("2 extremes", x.hold(3, Due.MAX), Due.BEYOND);
        Due.is("2 count", x.count(0), 9);
        Due.is("2 shops", x.count(1), 3);
        Due.is("2 status", x.status(0), 24);
    }

    private static void holdIsFull() {
        SitDown x = new SitDown();
        for (int i = 0; i < 8; i++) {
            Due.is("2 shops", x.hold(1 + i % 2, 100), i);
        }
        Due.is("2 ninth shop", x.hold(1, 100), Due.FULL);
        Due.is("2 ninth kitchen", x.hold(2, 100), Due.FULL);
        Due.is("2 beyond comes before full", x.hold(2, 0), Due.BEYOND);
        for (int i = 8; i < 24; i++) {
            Due.is("2 others", x.hold(i % 2 == 0 ? 0 : 6, 0), i);
        }
        Due.is("2 the 25th", x.hold(0, 0), Due.FULL);
        Due.is("2 the 25th", x.hold(3, 99), Due.FULL);
        Due.is("2 beyond comes before full", x.hold(0, -1), Due.BEYOND);
        Due.is("2 a gate from what cannot be there", x.hold(3, 2499), Due.BEYOND);
        Due.is("2 a gate to what cannot be there", x.hold(3, 24), Due.BEYOND);
        Due.is("2 a pipe to what cannot be there", x.hold(4, 2500), Due.BEYOND);
        Due.is("2 count", x.count(0), 24);
    }

    /** One HOLD of each kind: HOLD k is of kind k. */
    static SitDown oneOfEach() {
        SitDown x = new SitDown();
        x.hold(0, 305);
        x.hold(1, 407);
        x.hold(2, 206);
        x.hold(3, 102);
        x.hold(4, 201);
        x.hold(5, 1);
        x.hold(6, 1234);
        return x;
    }

    private static void as() {
        SitDown x = oneOfEach();
        String[] kindsOf = {"0", "01", "012", "03", "04", "045", "06"};
        for (int h = 0; h < 7; h++) {
            for (int k = 0; k < 7; k++) {
                boolean is = kindsOf[h].indexOf('0' + k) >= 0;
                Due.is("3 as " + h + " " + k, x.as(h, k), is ? h : Due.KIND);
            }
        }
        Due.is("3 as", x.as(7, 0), Due.BEYOND);
        Due.is("3 as", x.as(-1, 0), Due.BEYOND);
        Due.is("3 as", x.as(0, 7), Due.BEYOND);
        Due.is("3 as", x.as(0, -1), Due.BEYOND);
        Due.is("3 as", x.as(Due.MAX, Due.MIN), Due.BEYOND);
    }

    private static void of() {
        SitDown x = oneOfEach();
        int k = Due.KIND;
        int[][] due = {
            {0, 3, 5, k, k, k, k, k, k, k, k, k, k},
            {1, 4, 7, 12, 0, 0, 0, k, k, k, k, k, k},
            {2, 2, 6, 12, 0, 0, 0, 6, k, k, k, k, k},
            {3, 1, 2, k, k, k, k, k, 0, 0, k, k, k},
            {4, 2, 1, k, k, k, k, k, k, k, 1, k, k},
            {5, 0, 1, k, k, k, k, k, k, k, 1, k, k},
            {6, 12, 34, k, k, k, k, k, k, k, k, 12, 34},
        };
        for (int h = 0; h < 7; h++) {
            for (int what = 0; what < 13; what++) {
                Due.is("4 of " + h + " " + what, x.of(h, what), due[h][what]);
            }
            Due.is("4 of " + h, x.of(h, 13), Due.BEYOND);
            Due.is("4 of " + h, x.of(h, -1), Due.BEYOND);
        }
        Due.is("4 of", x.of(7, 0), Due.BEYOND);
        Due.is("4 of", x.of(-1, 0), Due.BEYOND);
        x.run(1, true);
        x.run(2, true);
        Due.is("4 a shop makes", x.of(1, 6), 1);
        Due.is("4 a kitchen makes nothing", x.of(2, 6), 0);
        Due.is("4 a kitchen is told", x.of(2, 5), 1);
        x.pass(2, 2);
        Due.is("4 meals", x.of(2, 7), 8);
        Due.is("4 b as it came", x.of(2, 2), 6);
        x.guard(3, 7);
        Due.is("4 guards", x.of(3, 9), 7);
        x.guard(3, 1);
        x.man(2, 9900);
        x.take(3);
        Due.is("4 held", x.of(3, 8), 1);
        Due.is("4 guards of one held", x.of(3, 9), 0);
        x.man(1, 9900);
        Due.is("4 a man is in it", x.of(1, 6), 0);
        x.shut(4, false);
        Due.is("4 shut", x.of(4, 10), 0);
        x.copyTerm(6, 56, 78);
        Due.is("4 cost", x.of(6, 11), 56);
        Due.is("4 worth", x.of(6, 12), 78);
        Due.is("4 a of the first copy", x.of(6, 1), 12);
    }

    private static void run() {
        SitDown x = oneOfEach();
        Due.is("5 run", x.run(1, true), 1);
        Due.is("5 run", x.run(1, true), 0);
        Due.is("5 run", x.of(1, 5), 1);
        Due.is("5 run", x.run(1, false), 1);
        Due.is("5 run", x.run(1, false), 0);
        Due.is("5 run", x.of(1, 5), 0);
        Due.is("5 run of a kitchen", x.run(2, true), 1);
        Due.is("5 run of a gate", x.run(3, true), Due.KIND);
        Due.is("5 run of a hold", x.run(0, true), Due.KIND);
        Due.is("5 run", x.run(7, true), Due.BEYOND);
        Due.is("5 run", x.run(-1, true), Due.BEYOND);
    }

    private static void shut() {
        SitDown x = oneOfEach();
        Due.is("6 open", x.shut(4, true), 0);
        Due.is("6 shut", x.shut(4, false), 1);
        Due.is("6 shut", x.shut(4, false), 0);
        Due.is("6 open", x.shut(4, true), 1);
        Due.is("6 a main", x.shut(5, false), 1);
        Due.is("6 a main", x.of(5, 10), 0);
        Due.is("6 a shop", x.shut(1, false), Due.KIND);
        Due.is("6 none", x.shut(7, false), Due.BEYOND);
        Due.is("6 none", x.shut(-1, false), Due.BEYOND);
    }

    private static void outside() {
        SitDown x = new SitDown();
        Due.is("7 outside", x.outside(9), 0);
        Due.is("7 outside", x.outside(10), Due.BEYOND);
        Due.is("7 outside", x.outside(-1), Due.BEYOND);
        Due.is("7 outside", x.outside(0), 9);
        Due.is("7 outside", x.outside(0), 0);
    }

    private static void cold() {
        SitDown x = oneOfEach();
        Due.is("8 cold", x.cold(1, 12), 0);
        Due.is("8 cold", x.cold(1, 11), 0);
        Due.is("8 cold", x.cold(1, 10), 1);
        Due.is("8 cold", x.cold(2, 0), 11);
        Due.is("8 cold", x.cold(2, 20), 0);
        Due.is("8 cold", x.cold(2, 21), Due.BEYOND);
        Due.is("8 cold", x.cold(2, -1), Due.BEYOND);
        Due.is("8 cold", x.cold(7, 5), Due.BEYOND);
        Due.is("8 cold", x.cold(3, 5), Due.KIND);
        Due.is("8 v comes before kind", x.cold(3, 21), Due.BEYOND);
        x.outside(5);
        Due.is("8 outside stays", x.cold(1, 5), 6);
        Due.is("8 never", x.cold(1, 4), Due.NONE);
        Due.is("8 a main of heat", x.hold(5, 0), 7);
        Due.is("8 heated", x.cold(1, 12), Due.NONE);
        Due.is("8 heated", x.cold(1, 13), 0);
        Due.is("8 heated", x.cold(2, 19), 0);
        x.tick(20);
        Due.is("8 twenty at most", x.of(1, 3), 20);
        Due.is("8 twenty at most", x.cold(1, 20), 20);
        Due.is("8 never", x.cold(1, 19), Due.NONE);
        x.shut(7, false);
        Due.is("8 from the open hour on", x.cold(1, 17), 22);
        x.outside(9);
        x.tick(20);
        Due.is("8 it goes up, too", x.of(1, 3), 9);
        x.outside(0);
        x.tick(4);
        x.outside(9);
        Due.is("8 it goes up, too", x.cold(1, 5), Due.NONE);
        Due.is("8 it goes up, too", x.cold(1, 6), 44);
        for (int i = 0; i < 9; i++) {
            x.tick(99);
        }
        x.tick(24);
        x.outside(0);
        Due.is("8 the open hour", x.count(9), 959);
        Due.is("8 hours above 959", x.cold(1, 1), 966);
    }
}
