import java.util.List;

/** Two objects with the same calls behind them; one of them then hears a call that is refused. */
final class Twins {
    private static final int MOST_CALLS = 512;
    private static final int VIEWS = 6;

    private final SitDown x = new SitDown();
    private final StringBuilder seen = new StringBuilder();
    private int left = MOST_CALLS;

    private Twins(List<Script.Call> before) {
        for (Script.Call call : before) {
            call.answer(x);
            left--;
        }
    }

    /** The refused call changes nothing but status(), and that by one. */
    static void unchanged(String label, List<Script.Call> before, Script.Call refused) {
        for (int view = 0; view < VIEWS; view++) {
            Twins one = new Twins(before);
            Twins other = new Twins(before);
            refused.answer(one.x);
            one.left--;
            other.left--;
            one.look(view);
            other.look(view);
            boolean isLike = one.seen.toString().contentEquals(other.seen);
            Due.is(label + " leaves all as it was (1), view " + view, isLike ? 1 : 0, 1);
        }
        status(label, before, refused);
    }

    private static void status(String label, List<Script.Call> before, Script.Call refused) {
        Twins one = new Twins(before);
        Twins other = new Twins(before);
        if (one.left < 10) {
            return;
        }
        refused.answer(one.x);
        boolean isCounted = !refused.name().equals("status");
        for (int which = -1; which < 7; which++) {
            boolean isIt = which == -1 || which == -1000001 - refused.due();
            int more = one.x.status(which) - other.x.status(which);
            Due.is(label + " adds to status(" + which + ")", more, isCounted && isIt ? 1 : 0);
        }
    }

    /** What an object answers behind its 512th call is free: nothing is asked then. */
    private boolean mayAsk() {
        left--;
        return left >= 0;
    }

    private void put(int v) {
        seen.append(v).append(' ');
    }

    private void look(int view) {
        switch (view) {
            case 0:
                counts();
                holds();
                break;
            case 1:
                men();
                works();
                texts();
                break;
            case 2:
                sheetsAndTape();
                game();
                break;
            case 3:
                windows();
                rumours();
                break;
            case 4:
                put(x.undo());
                counts();
                holds();
                put(x.tear());
                break;
            default:
                put(x.tick(7));
                put(x.tick(24));
                counts();
                men();
                holds();
                break;
        }
    }

    private void counts() {
        for (int what = 0; what <= 13 && mayAsk(); what++) {
            put(x.count(what));
        }
        put(x.unlike());
        put(x.want(0));
        put(x.want(1));
        left -= 3;
    }

    private void holds() {
        int holds = x.count(0);
        for (int h = 0; h < holds; h++) {
            for (int what = 0; what <= 12 && mayAsk(); what++) {
                put(x.of(h, what));
            }
        }
    }

    private void men() {
        int men = x.count(2);
        for (int m = 0; m < men; m++) {
            for (int what = 0; what <= 3 && mayAsk(); what++) {
                put(x.where(m, what));
            }
            if (mayAsk()) {
                put(x.stay(m));
            }
        }
    }

    private void works() {
        for (int i = 0; i < 6 && mayAsk(); i++) {
            put(x.part(i));
            put(x.last(i, 0));
            put(x.last(i, 1));
            put(x.book(0, i));
            left -= 3;
        }
        if (mayAsk()) {
            put(x.least((1 << x.count(4)) - 1));
        }
    }

    private void texts() {
        for (int t = 0; t < 8 && mayAsk(); t++) {
            put(x.between(t));
        }
        int holds = x.count(0);
        for (int h = 0; h < holds; h++) {
            for (int word = 0; word < 4 && mayAsk(); word++) {
                put(x.why(word, h));
            }
            if (mayAsk()) {
                put(x.reach(h));
            }
            if (mayAsk()) {
                put(x.cold(h, 5));
            }
        }
    }

    /** Writing tells what a number was; writing twice tells of how many bits it is. */
    private void sheetsAndTape() {
        for (int s = 0; s < 4; s++) {
            for (int i = 0; i < 12 && mayAsk(); i++) {
                put(x.write(s, i, 0x12345678));
            }
            if (mayAsk()) {
                put(x.write(s, 0, 0));
            }
        }
        for (int judge = 0; judge < 4 && mayAsk(); judge++) {
            put(x.shares(judge));
        }
        if (mayAsk()) {
            put(x.text(0, 0, 959));
        }
        if (mayAsk()) {
            put(x.wipe());
        }
    }

    private void game() {
        for (int will = 1; will <= 10; will += 3) {
            for (int orders = 1; orders <= 10; orders += 3) {
                for (int n = 1; n <= 3 && mayAsk(); n++) {
                    put(x.play(will, orders, n));
                    put(x.best(will, orders, n));
                    left--;
                }
            }
        }
    }

    private void windows() {
        int holds = x.count(0);
        for (int h = 0; h < holds; h++) {
            for (int n = 9; n > 0 && mayAsk(); n--) {
                put(x.pass(h, n));
            }
        }
    }

    private void rumours() {
        int holds = x.count(0);
        for (int h = 0; h < holds && mayAsk(); h++) {
            put(x.feint(h));
        }
        for (int n = 1; n <= 9 && mayAsk(); n += 4) {
            put(x.squads(n));
            put(x.believe());
            left--;
            for (int h = 0; h < holds && mayAsk(); h++) {
                put(x.of(h, 9));
            }
        }
        for (int r = 0; r < 6 && mayAsk(); r++) {
            put(x.out(r, true));
        }
    }
}
