/** Promises 53 to 57. */
public final class ImagesTest {
    public static void main(String[] args) {
        image();
        imageOfMoves();
        undo();
        tear();
        count();
        status();
        Due.end();
    }

    /** A SHOP 0, KITCHEN 1, GATE 2 of them, PIPE 3 of heat to SHOP 0, TERM 4, and something of all the rest. */
    private static SitDown full() {
        SitDown x = new SitDown();
        x.hold(1, 3);
        x.hold(2, 305);
        x.hold(3, 1);
        x.hold(4, 0);
        x.hold(6, 1020);
        x.run(0, true);
        x.man(1, 5000);
        x.work(200000);
        x.rumour(2, 4);
        x.squads(2);
        x.list(0, 20, 5);
        Due.text(x, 0, "bar take when hour>0");
        x.hold(5, 1);
        return x;
    }

    /** All that can be seen of sections 1 to 7 and the lists, as one text. */
    private static String seen(SitDown x) {
        StringBuilder all = new StringBuilder();
        for (int what = 0; what <= 13; what++) {
            all.append(what == 12 ? 0 : x.count(what)).append(' ');
        }
        for (int h = 0; h < 7; h++) {
            for (int what = 0; what <= 12; what++) {
                all.append(x.of(h, what)).append(' ');
            }
            for (int w = 0; w < 4; w++) {
                all.append(x.why(w, h)).append(' ').append(x.barred(w, h)).append(' ');
            }
            all.append(x.cold(h, 3)).append(' ').append(x.feint(h)).append(' ').append(x.force(h)).append('\n');
        }
        for (int m = 0; m < 2; m++) {
            for (int what = 0; what < 4; what++) {
                all.append(x.where(m, what)).append(' ');
            }
            all.append(x.stay(m)).append('\n');
        }
        for (int i = 0; i < 6; i++) {
            all.append(x.part(i)).append(' ').append(x.last(i, 0)).append(' ').append(x.between(i)).append(' ');
            all.append(x.book(0, i)).append(' ').append(x.book(1, i)).append(' ');
        }
        all.append(x.unlike()).append(' ').append(x.want(0)).append(' ').append(x.want(1)).append(' ');
        all.append(x.play(9, 9, 3)).append(x.play(3, 9, 3)).append(x.best(9, 9, 3)).append(x.play(9, 3, 2));
        return all.toString();
    }

    private static void image() {
        String due = seen(full());
        for (int act = 0; act < 24; act++) {
            SitDown x = full();
            Due.is("53 image", x.image(), 1);
            int answer = act(x, act);
            Due.is("53 act " + act + " is no finding", answer < -1000000 ? 0 : 1, 1);
            Due.is("54 undo", x.undo(), 0);
            Due.is("54 all is as before act " + act, seen(x).equals(due) ? 1 : 0, 1);
            SitDown y = full();
            act(y, act);
            Due.is("54 act " + act + " can be seen", seen(y).equals(due) ? 1 : 0, 0);
        }
    }

    private static int act(SitDown x, int act) {
        switch (act) {
            case 0: return x.hold(1, 109);
            case 1: return x.run(0, false);
            case 2: return x.shut(3, false);
            case 3: return x.outside(4);
            case 4: return x.man(0, 4444);
            case 5: return x.hear(0, 9);
            case 6: return x.pass(1, 3);
            case 7: return x.take(2);
            case 8: return x.guard(2, 9);
            case 9: return x.work(123456);
            case 10: Due.sheet(x, 0, 5, 5, 5, 5, 5, 5);
                return x.stock(0);
            case 11: return Due.text(x, 3, "bar make;may pass when men<9;bar leave");
            case 12: return x.shares(0);
            case 13: return x.rumour(2, 9);
            case 14: return x.out(0, true);
            case 15: return x.squads(1);
            case 16: x.out(0, true);
                return x.believe();
            case 17: return x.copyTerm(4, 1, 1);
            case 18: return x.list(0, 900, 100);
            case 19: return x.move(0, 2, 0, -9);
            case 20: return x.move(1, 1, -9, 0);
            case 21: return x.tick(1);
            case 22: return x.tick(60);
            default: x.take(2);
                return x.go(0, 0);
        }
    }

    private static void imageOfMoves() {
        SitDown x = full();
        Due.sheet(x, 1, 7, 8);
        Due.type(x, "ab");
        x.image();
        x.write(1, 0, 5);
        Due.type(x, "c");
        x.sheet(2, 8, 3);
        x.pass(1, 2);
        x.undo();
        Due.is("53 sheets are not kept", x.write(1, 0, 5), 5);
        Due.is("53 sheets are not kept", x.write(2, 2, 0), 0);
        Due.is("53 the tape is not kept", x.count(12), 3);
        Due.is("53 what was passed in the hour is kept", x.pass(1, 3), 8);
        x.image();
        x.tick(1);
        x.undo();
        Due.is("53 what was passed in the hour is kept", x.pass(1, 1), Due.SIZE);
        x.image();
        x.tick(30);
        Due.is("48 closed", x.book(0, 0), 1);
        x.undo();
        Due.is("48 not closed", x.book(0, 0), Due.NONE);
    }

    private static void undo() {
        SitDown x = full();
        Due.is("54 nothing is kept", x.undo(), Due.NONE);
        x.tick(3);
        x.image();
        x.tick(3);
        Due.is("54 the open hour", x.undo(), 3);
        x.tick(5);
        Due.is("54 it stays", x.undo(), 3);
        x.tick(4);
        x.image();
        x.tick(1);
        Due.is("54 what was kept latest", x.undo(), 7);
        Due.is("54 it stays", x.undo(), 7);
        x.man(0, 1234);
        x.hear(1, 5);
        x.undo();
        Due.is("54 a man is gone", x.where(1, 0), Due.BEYOND);
        Due.is("54 a man anew", x.man(1, 2000), 1);
        Due.is("54 a man anew", x.where(1, 1), 20);
        x.undo();
        Due.is("54 a text anew", Due.text(x, 1, "bar make;bar pass"), 1);
        x.undo();
        Due.is("54 a text anew", Due.text(x, 1, "may make"), 1);
        Due.is("54 a text anew", x.why(3, 0), 10);
        Due.is("54 a text anew", x.why(1, 0), Due.NONE);
    }

    private static void tear() {
        SitDown x = full();
        Due.is("55 nothing is kept", x.tear(), 0);
        x.image();
        x.image();
        Due.is("55 tear", x.tear(), 1);
        Due.is("55 tear", x.tear(), 0);
        Due.is("55 nothing is kept", x.undo(), Due.NONE);
        Due.is("55 image", x.image(), 1);
        x.tick(1);
        Due.is("55 image", x.undo(), 0);
    }

    private static void count() {
        SitDown x = full();
        x.hold(1, 0);
        x.run(6, true);
        x.man(0, 99);
        x.man(1, 99);
        x.man(1, 9900);
        Due.sheet(x, 0, 99, 0, 0, 0, 0, 0);
        x.stock(0);
        x.work(0);
        x.work(9);
        x.take(2);
        x.tick(2);
        Due.type(x, "may take");
        x.text(1, 3, 4);
        x.feed(0, 4);
        x.rumour(2, 1);
        int[] due = {7, 3, 4, 2, 3, 4, 2, 1, 2, 2, 1, 2, 4, 2};
        for (int what = 0; what <= 13; what++) {
            Due.is("56 count " + what, x.count(what), due[what]);
        }
        Due.is("56 what", x.count(14), Due.BEYOND);
        Due.is("56 what", x.count(-1), Due.BEYOND);
    }

    private static void status() {
        SitDown x = new SitDown();
        Due.is("57 none", x.status(-1), 0);
        Due.is("57 which", x.status(7), Due.BEYOND);
        Due.is("57 which", x.status(-2), Due.BEYOND);
        Due.is("57 not counted", x.status(-1), 0);
        x.image();
        x.hold(9, 0);
        x.tick(0);
        for (int i = 0; i < 7; i++) {
            x.work(0);
        }
        x.hold(0, 0);
        x.run(0, true);
        x.take(0);
        x.man(0, 0);
        x.why(0, 5);
        x.undo();
        x.tear();
        x.undo();
        x.shares(0);
        x.shares(0);
        x.stock(0);
        x.sheet(0, 8, -1);
        x.sheet(0, 8, -2);
        x.text(0, 0, 0);
        int[] due = {3, 1, 3, 1, 1, 1, 2};
        for (int which = 0; which < 7; which++) {
            Due.is("57 status " + which, x.status(which), due[which]);
        }
        Due.is("57 all", x.status(-1), 12);
    }
}
