import java.util.Random;

/** Promises 43 to 46; games are gone through once more by the plainest code. */
public final class MovesTest {
    private static final int[][] WILLS = new int[2][3];
    private static final int[][] ORDERS = new int[2][3];

    public static void main(String[] args) {
        move();
        play();
        best();
        judge();
        manyGames();
        Due.end();
    }

    private static void move() {
        SitDown x = new SitDown();
        Due.is("43 move", x.move(0, 0, 9, -9), 1);
        Due.is("43 move", x.move(1, 2, -9, 9), 1);
        Due.is("43 side", x.move(2, 0, 0, 0), Due.BEYOND);
        Due.is("43 side", x.move(-1, 0, 0, 0), Due.BEYOND);
        Due.is("43 k", x.move(0, 3, 0, 0), Due.BEYOND);
        Due.is("43 k", x.move(0, -1, 0, 0), Due.BEYOND);
        Due.is("43 will", x.move(0, 0, 10, 0), Due.BEYOND);
        Due.is("43 will", x.move(0, 0, -10, 0), Due.BEYOND);
        Due.is("43 orders", x.move(0, 0, 0, 10), Due.BEYOND);
        Due.is("43 orders", x.move(0, 0, 0, -10), Due.BEYOND);
        Due.is("43 kept", x.play(1, 9, 1), 1);
        Due.is("43 kept", x.play(1, 10, 1), 0);
    }

    private static void play() {
        SitDown x = new SitDown();
        Due.is("44 moves that do nothing", x.play(1, 1, 5), 0);
        Due.is("44 will", x.play(0, 1, 1), Due.BEYOND);
        Due.is("44 will", x.play(100, 1, 1), Due.BEYOND);
        Due.is("44 orders", x.play(1, 0, 1), Due.BEYOND);
        Due.is("44 orders", x.play(1, 100, 1), Due.BEYOND);
        Due.is("44 n", x.play(1, 1, 0), Due.BEYOND);
        Due.is("44 n", x.play(1, 1, 6), Due.BEYOND);
        Due.is("44 edges", x.play(99, 99, 5), 0);
        for (int k = 0; k < 3; k++) {
            x.move(0, k, -2, -2);
        }
        Due.is("44 lost comes before won", x.play(2, 2, 1), -1);
        Due.is("44 won", x.play(3, 2, 1), 1);
        Due.is("44 in two steps", x.play(5, 4, 2), 1);
        Due.is("44 not in one", x.play(5, 4, 1), 0);
        x.move(1, 1, 0, 1);
        Due.is("44 the company holds on", x.play(9, 4, 2), 0);
        Due.is("44 three steps", x.play(9, 4, 3), 1);
        x.move(1, 2, -1, -9);
        Due.is("44 the company ends it when will is gone", x.play(3, 9, 1), -1);
        Due.is("44 it would not win for them", x.play(4, 5, 1), 0);
    }

    private static void best() {
        SitDown x = new SitDown();
        Due.is("45 of like ones the least", x.best(5, 5, 3), 0);
        x.move(0, 0, -1, 0);
        x.move(0, 1, 0, -1);
        x.move(0, 2, 0, -2);
        Due.is("45 the first that keeps it open", x.best(5, 5, 1), 0);
        Due.is("45 lost by the first", x.best(1, 5, 1), 1);
        Due.is("45 won by the third", x.best(1, 2, 1), 2);
        Due.is("45 won by the second, too", x.best(1, 1, 1), 1);
        Due.is("45 won in two", x.best(2, 3, 2), 1);
        Due.is("45 will", x.best(0, 1, 1), Due.BEYOND);
        Due.is("45 will", x.best(100, 1, 1), Due.BEYOND);
        Due.is("45 orders", x.best(1, 0, 1), Due.BEYOND);
        Due.is("45 orders", x.best(1, 100, 1), Due.BEYOND);
        Due.is("45 n", x.best(1, 1, 0), Due.BEYOND);
        Due.is("45 n", x.best(1, 1, 6), Due.BEYOND);
        for (int k = 0; k < 3; k++) {
            x.move(1, k, -9, 0);
        }
        Due.is("45 lost by all", x.best(5, 50, 1), 0);
    }

    private static void judge() {
        SitDown x = new SitDown();
        Due.is("46 sheet", x.judge(4, 5, 5), Due.BEYOND);
        Due.is("46 sheet", x.judge(-1, 5, 5), Due.BEYOND);
        Due.is("46 missing", x.judge(0, 5, 5), Due.MISSING);
        Due.is("46 will comes before missing", x.judge(0, 0, 5), Due.BEYOND);
        Due.is("46 will", x.judge(0, 100, 5), Due.BEYOND);
        Due.is("46 orders", x.judge(0, 5, 0), Due.BEYOND);
        Due.is("46 orders", x.judge(0, 5, 100), Due.BEYOND);
        Due.sheet(x, 0);
        Due.is("46 none", x.judge(0, 5, 5), Due.SIZE);
        Due.sheet(x, 0, 0, 0, 0, 0, 0, 0);
        Due.is("46 six", x.judge(0, 5, 5), Due.SIZE);
        Due.sheet(x, 0, 0, 0, 3);
        Due.is("46 a number", x.judge(0, 5, 5), Due.BEYOND);
        Due.sheet(x, 0, 0, -1, 0);
        Due.is("46 a number", x.judge(0, 5, 5), Due.BEYOND);
        Due.sheet(x, 0, 3);
        Due.is("46 the first number, too", x.judge(0, 5, 5), Due.BEYOND);
        Due.sheet(x, 3, 0);
        Due.is("46 sheet 3", x.judge(3, 5, 5), 0);
        x.move(0, 1, 0, -2);
        x.move(0, 2, -1, 0);
        x.move(1, 1, -1, 0);
        x.move(1, 2, 0, 1);
        Due.sheet(x, 0, 1);
        Due.is("46 won", x.judge(0, 5, 2), 1);
        Due.is("46 open", x.judge(0, 5, 3), 0);
        Due.is("46 lost", x.judge(0, 1, 3), -1);
        Due.sheet(x, 0, 1, 1);
        // the company puts 1 back
        Due.is("46 open", x.judge(0, 9, 4), 0);
        Due.is("46 won", x.judge(0, 9, 3), 1);
        Due.sheet(x, 0, 1, 1, 2, 2, 1);
        Due.is("46 lost in five", x.judge(0, 5, 50), -1);
        Due.is("46 lost in five", x.judge(0, 7, 50), -1);
        Due.is("46 open in five", x.judge(0, 8, 50), 0);
    }

    private static void manyGames() {
        Random random = new Random(1937);
        for (int round = 0; round < 400; round++) {
            SitDown x = new SitDown();
            int span = 1 + random.nextInt(9);
            for (int side = 0; side < 2; side++) {
                for (int k = 0; k < 3; k++) {
                    WILLS[side][k] = random.nextInt(2 * span + 1) - span;
                    ORDERS[side][k] = random.nextInt(2 * span + 1) - span;
                    x.move(side, k, WILLS[side][k], ORDERS[side][k]);
                }
            }
            int n = 1 + random.nextInt(round % 10 == 0 ? 5 : 4);
            int will = 1 + random.nextInt(round % 2 == 0 ? 20 : 99);
            int orders = 1 + random.nextInt(20);
            int[] free = {-1, -1, -1, -1, -1};
            int due = menMove(free, 0, n, will, orders);
            Due.is("44 game " + round, x.play(will, orders, n), due);
            int best = 0;
            free[0] = 0;
            while (menMove(free, 0, n, will, orders) != due) {
                best++;
                free[0] = best;
            }
            Due.is("45 game " + round, x.best(will, orders, n), best);
            int[] plan = new int[n];
            for (int i = 0; i < n; i++) {
                plan[i] = random.nextInt(3);
            }
            Due.sheet(x, 0, plan);
            Due.is("46 game " + round, x.judge(0, will, orders), menMove(plan, 0, n, will, orders));
        }
    }

    private static int menMove(int[] plan, int step, int n, int will, int orders) {
        int most = -2;
        for (int k = 0; k < 3; k++) {
            if (plan[step] < 0 || plan[step] == k) {
                int w = will + WILLS[0][k];
                int o = orders + ORDERS[0][k];
                int v = w <= 0 ? -1 : o <= 0 ? 1 : companyMoves(plan, step, n, w, o);
                most = Math.max(most, v);
            }
        }
        return most;
    }

    private static int companyMoves(int[] plan, int step, int n, int will, int orders) {
        int least = 2;
        for (int k = 0; k < 3; k++) {
            int w = will + WILLS[1][k];
            int o = orders + ORDERS[1][k];
            int v = w <= 0 ? -1 : o <= 0 ? 1 : step + 1 == n ? 0 : menMove(plan, step + 1, n, w, o);
            least = Math.min(least, v);
        }
        return least;
    }
}
