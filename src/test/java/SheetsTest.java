/** Promises 50 to 52. */
public final class SheetsTest {
    public static void main(String[] args) {
        sheet();
        write();
        copy();
        Due.end();
    }

    private static void sheet() {
        SitDown x = new SitDown();
        Due.is("50 sheet", x.sheet(0, 8, 12), 12);
        Due.is("50 sheet", x.sheet(3, 16, 0), 0);
        Due.is("50 sheet", x.sheet(1, 32, 3), 3);
        Due.is("50 s", x.sheet(4, 8, 1), Due.BEYOND);
        Due.is("50 s", x.sheet(-1, 8, 1), Due.BEYOND);
        Due.is("50 bits", x.sheet(0, 7, 1), Due.BEYOND);
        Due.is("50 bits", x.sheet(0, 64, 1), Due.BEYOND);
        Due.is("50 bits", x.sheet(0, -8, 1), Due.BEYOND);
        Due.is("50 n", x.sheet(0, 8, -1), Due.SIZE);
        Due.is("50 n", x.sheet(0, 8, 13), Due.BEYOND);
        Due.is("50 bits come before n", x.sheet(0, 9, -1), Due.BEYOND);
        x.write(1, 2, 77);
        Due.is("50 all 0", x.sheet(1, 32, 3), 3);
        Due.is("50 all 0", x.write(1, 2, 5), 0);
        Due.is("50 n is asked all the same", x.sheet(1, 0, -1), Due.SIZE);
        Due.is("50 n is asked all the same", x.sheet(1, 0, 13), Due.BEYOND);
        Due.is("50 not missing yet", x.write(1, 2, 5), 5);
        Due.is("50 missing", x.sheet(1, 0, 3), 0);
        Due.is("50 missing", x.write(1, 2, 5), Due.MISSING);
        Due.is("50 shorter", x.sheet(0, 8, 2), 2);
        Due.is("50 shorter", x.write(0, 2, 5), Due.BEYOND);
    }

    private static void write() {
        SitDown x = new SitDown();
        Due.is("51 missing", x.write(0, 99, 1), Due.MISSING);
        Due.is("51 sheet", x.write(4, 0, 1), Due.BEYOND);
        Due.is("51 sheet", x.write(-1, 0, 1), Due.BEYOND);
        x.sheet(0, 8, 2);
        x.sheet(1, 16, 2);
        x.sheet(2, 32, 2);
        Due.is("51 i", x.write(0, 2, 1), Due.BEYOND);
        Due.is("51 i", x.write(0, -1, 1), Due.BEYOND);
        Due.is("51 what it was", x.write(0, 1, 127), 0);
        Due.is("51 what it was", x.write(0, 1, 128), 127);
        Due.is("51 its lowest bits", x.write(0, 1, -129), -128);
        Due.is("51 its lowest bits", x.write(0, 1, 0x12345678), 127);
        Due.is("51 its lowest bits", x.write(0, 1, 0), 0x78);
        Due.is("51 the other", x.write(0, 0, 0), 0);
        x.write(1, 0, 32768);
        Due.is("51 16 bits", x.write(1, 0, 65535), -32768);
        Due.is("51 16 bits", x.write(1, 0, 32767), -1);
        Due.is("51 16 bits", x.write(1, 0, 0x12345678), 32767);
        Due.is("51 16 bits", x.write(1, 0, 0), 0x5678);
        x.write(2, 0, Due.MIN);
        Due.is("51 32 bits", x.write(2, 0, Due.MAX), Due.MIN);
        Due.is("51 32 bits", x.write(2, 0, Due.NONE), Due.MAX);
        Due.is("51 no finding", x.write(2, 0, 0), Due.NONE);
        Due.is("51 no finding", x.status(3), 0);
    }

    private static void numbers(SitDown x, int s, int... due) {
        for (int i = 0; i < due.length; i++) {
            Due.is("52 number " + i + " of sheet " + s, x.write(s, i, due[i]), due[i]);
        }
    }

    private static void copy() {
        SitDown x = new SitDown();
        Due.sheet(x, 0, 1, 2, 3, 4, 5);
        Due.sheet(x, 1, 9, 9, 9);
        Due.is("52 copy", x.copy(0, 1, 1, 0, 2), 2);
        numbers(x, 1, 2, 3, 9);
        numbers(x, 0, 1, 2, 3, 4, 5);
        Due.is("52 as they all were", x.copy(0, 0, 0, 1, 4), 4);
        numbers(x, 0, 1, 1, 2, 3, 4);
        Due.is("52 as they all were", x.copy(0, 1, 0, 0, 4), 4);
        numbers(x, 0, 1, 2, 3, 4, 4);
        Due.is("52 none", x.copy(0, 5, 1, 3, 0), 0);
        Due.is("52 too many", x.copy(0, 0, 1, 0, 4), Due.BEYOND);
        Due.is("52 too many", x.copy(1, 0, 0, 0, 4), Due.BEYOND);
        Due.is("52 too many", x.copy(0, 4, 1, 0, 2), Due.BEYOND);
        Due.is("52 too many", x.copy(0, 0, 1, 2, 2), Due.BEYOND);
        Due.is("52 from", x.copy(0, 6, 1, 0, 0), Due.BEYOND);
        Due.is("52 to", x.copy(0, 0, 1, 4, 0), Due.BEYOND);
        Due.is("52 below 0", x.copy(0, -1, 1, 0, 1), Due.BEYOND);
        Due.is("52 below 0", x.copy(0, 0, 1, -1, 1), Due.BEYOND);
        Due.is("52 below 0", x.copy(0, 0, 1, 0, -1), Due.BEYOND);
        Due.is("52 extremes", x.copy(0, 1, 1, 1, Due.MAX), Due.BEYOND);
        Due.is("52 extremes", x.copy(0, Due.MAX, 1, Due.MAX, 2), Due.BEYOND);
        Due.is("52 extremes", x.copy(0, Due.MIN, 1, 0, Due.MIN), Due.BEYOND);
        Due.is("52 sheet", x.copy(4, 0, 1, 0, 1), Due.BEYOND);
        Due.is("52 sheet", x.copy(0, 0, -1, 0, 1), Due.BEYOND);
        Due.is("52 missing", x.copy(0, 0, 2, 0, 1), Due.MISSING);
        Due.is("52 missing", x.copy(2, 0, 0, 0, 1), Due.MISSING);
        Due.is("52 beyond comes before missing", x.copy(2, 0, 4, 0, 1), Due.BEYOND);
        x.sheet(3, 16, 5);
        Due.is("52 sheet 3", x.copy(3, 0, 3, 1, 2), 2);
        Due.is("52 bits", x.copy(0, 0, 3, 0, 1), Due.KIND);
        Due.is("52 missing comes before bits", x.copy(2, 0, 3, 0, 99), Due.MISSING);
        Due.is("52 bits come before how many", x.copy(0, 0, 3, 0, 99), Due.KIND);
        numbers(x, 1, 2, 3, 9);
    }
}
