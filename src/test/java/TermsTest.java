/** Promises 38 to 42. */
public final class TermsTest {
    public static void main(String[] args) {
        copyTerm();
        unlike();
        sign();
        signOfTen();
        list();
        want();
        Due.end();
    }

    private static void copyTerm() {
        SitDown x = new SitDown();
        x.hold(6, 1020);
        x.hold(0, 0);
        Due.is("38 alike", x.copyTerm(0, 10, 20), 0);
        Due.is("38 cost", x.copyTerm(0, 11, 20), 1);
        Due.is("38 worth", x.copyTerm(0, 10, 19), 1);
        Due.is("38 of", x.of(0, 12), 19);
        Due.is("38 alike again", x.copyTerm(0, 10, 20), 0);
        Due.is("38 numbers", x.copyTerm(0, 100, 0), Due.BEYOND);
        Due.is("38 numbers", x.copyTerm(0, 0, 100), Due.BEYOND);
        Due.is("38 numbers", x.copyTerm(0, -1, 0), Due.BEYOND);
        Due.is("38 numbers", x.copyTerm(0, 0, -1), Due.BEYOND);
        Due.is("38 hold", x.copyTerm(2, 0, 0), Due.BEYOND);
        Due.is("38 hold", x.copyTerm(-1, 0, 0), Due.BEYOND);
        Due.is("38 no term", x.copyTerm(1, 0, 0), Due.KIND);
        Due.is("38 numbers come before kind", x.copyTerm(1, 100, 0), Due.BEYOND);
        Due.is("38 edges", x.copyTerm(0, 99, 0), 1);
    }

    private static void unlike() {
        SitDown x = new SitDown();
        Due.is("39 none", x.unlike(), 0);
        x.hold(0, 1);
        x.hold(6, 506);
        x.hold(6, 506);
        Due.is("39 alike", x.unlike(), 0);
        x.copyTerm(2, 5, 7);
        Due.is("39 one", x.unlike(), 4);
        x.copyTerm(1, 4, 6);
        Due.is("39 both", x.unlike(), 6);
        x.copyTerm(2, 5, 6);
        Due.is("39 one", x.unlike(), 2);
        SitDown y = new SitDown();
        y.hold(6, 506);
        y.copyTerm(0, 5, 5);
        Due.is("39 term 0", y.unlike(), 1);
    }

    private static void sign() {
        SitDown x = new SitDown();
        x.hold(0, 0);
        x.hold(6, 510);
        x.hold(6, 205);
        x.hold(6, 305);
        x.hold(6, 510);
        Due.is("40 none is wanted", x.sign(30, 0, 0), 0);
        Due.is("40 the least cost", x.sign(30, 5, 99), 4);
        Due.is("40 of the set alone", x.sign(26, 5, 99), 8);
        // 10 by 1 alone, by 4 alone, or by 2 and 3, at 5 each
        Due.is("40 the fewest, then the least", x.sign(30, 10, 99), 2);
        Due.is("40 the least as bits", x.sign(28, 10, 99), 16);
        Due.is("40 two", x.sign(12, 10, 5), 12);
        Due.is("40 limit", x.sign(30, 10, 4), Due.NONE);
        Due.is("40 all", x.sign(30, 30, 15), 30);
        Due.is("40 too much", x.sign(30, 31, 999), Due.NONE);
        x.copyTerm(1, 6, 10);
        Due.is("40 cost in the second copy", x.sign(6, 10, 5), Due.NONE);
        Due.is("40 cost in the second copy", x.sign(6, 10, 6), 2);
        x.copyTerm(4, 5, 9);
        Due.is("40 worth in the second copy", x.sign(16, 10, 99), Due.NONE);
        Due.is("40 worth in the second copy", x.sign(16, 9, 99), 16);
        x.copyTerm(4, 0, 99);
        Due.is("40 worth in the first copy", x.sign(16, 11, 99), Due.NONE);
        Due.is("40 cost in the first copy", x.sign(16, 10, 4), Due.NONE);
        Due.is("40 others", x.sign(31, 0, 0), Due.BEYOND);
        Due.is("40 others", x.sign(32, 0, 0), Due.BEYOND);
        Due.is("40 others", x.sign(-1, 0, 0), Due.BEYOND);
        Due.is("40 others", x.sign(Due.MIN, 0, 0), Due.BEYOND);
        Due.is("40 ask", x.sign(30, 1000, 0), Due.BEYOND);
        Due.is("40 ask", x.sign(30, -1, 0), Due.BEYOND);
        Due.is("40 limit", x.sign(30, 0, 1000), Due.BEYOND);
        Due.is("40 limit", x.sign(30, 0, -1), Due.BEYOND);
        Due.is("40 edges", x.sign(30, 999, 999), Due.NONE);
        SitDown y = new SitDown();
        y.hold(6, 605);
        y.hold(6, 505);
        Due.is("40 cheaper by 1", y.sign(3, 5, 99), 2);
    }

    private static void signOfTen() {
        SitDown x = new SitDown();
        for (int i = 0; i < 10; i++) {
            x.hold(6, 101);
        }
        Due.is("40 nine", x.sign(511, 9, 9), 511);
        Due.is("40 ten", x.sign(1023, 1, 9), Due.SIZE);
        Due.is("40 beyond comes before size", x.sign(1023, -1, 9), Due.BEYOND);
        Due.is("40 nine others", x.sign(1022, 9, 9), 1022);
        Due.is("40 the least as bits", x.sign(1022, 2, 9), 6);
    }

    private static void list() {
        SitDown x = new SitDown();
        Due.is("41 list", x.list(0, 0, 0), 1);
        Due.is("41 list", x.list(5, 999, 999), 1);
        Due.is("41 k", x.list(6, 1, 1), Due.BEYOND);
        Due.is("41 k", x.list(-1, 1, 1), Due.BEYOND);
        Due.is("41 names", x.list(0, 1000, 1), Due.BEYOND);
        Due.is("41 names", x.list(0, -1, -1), Due.BEYOND);
        Due.is("41 foreman", x.list(0, 5, 6), Due.BEYOND);
        Due.is("41 foreman", x.list(0, 5, -1), Due.BEYOND);
        Due.is("41 nothing more", x.want(1), 999);
        x.list(5, 3, 1);
        Due.is("41 anew", x.want(1), 3);
    }

    private static void want() {
        SitDown x = new SitDown();
        Due.is("42 none", x.want(0), 0);
        Due.is("42 none", x.want(1), 0);
        x.list(0, 100, 90);
        x.list(3, 50, 20);
        x.list(5, 40, 15);
        Due.is("42 the least", x.want(0), 30);
        Due.is("42 the most", x.want(1), 190);
        x.list(0, 100, 69);
        Due.is("42 the least by list 0", x.want(0), 31);
        Due.is("42 what", x.want(2), Due.BEYOND);
        Due.is("42 what", x.want(-1), Due.BEYOND);
        for (int k = 0; k < 4; k++) {
            x.list(k, 999, 0);
        }
        x.list(4, 3, 0);
        x.list(5, 0, 0);
        Due.is("42 3999", x.want(1), 3999);
        x.list(4, 4, 0);
        Due.is("42 4000", x.want(1), 4000);
        x.list(4, 5, 0);
        Due.is("42 4000 at most", x.want(1), 4000);
        Due.is("42 the least", x.want(0), 999);
    }
}
