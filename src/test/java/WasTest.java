/** Promises 17 to 23: show, forget, touched, order, box, from, led. */
public final class WasTest {
    private static final int BAD = -1, FULL = -3, NONE = -4;
    private static final Checks checks = new Checks();

    public static void main(String[] args) {
        show();
        forget();
        touched();
        order();
        orderOfSixAtMost();
        box();
        boxOfHours();
        from();
        led();
        fromAndLedAreRefused();
        checks.end();
    }

    private static void show() {
        BlueByTouch x = Checks.house("i0,9;i3,0;");
        int[][] bad = {{2, 0}, {-1, 0}, {0, -1}, {0, 10}, {2, 10}};
        for (int[] row : bad) {
            checks.due("show(" + row[0] + ", " + row[1] + ")", x.show(row[0], row[1]), BAD);
        }
        checks.due("nothing is SHOWN", x.count(6), 0);
        checks.due("show(0, 0)", x.show(0, 0), 1);
        checks.due("of the same one another SHADE", x.show(0, 9), 2);
        checks.due("the same again", x.show(0, 9), 3);
        checks.due("a THING", x.show(1, 9), 4);
        checks.due("the fifth", x.show(1, 0), 5);
        checks.due("the sixth", x.show(1, 1), 6);
        checks.due("the seventh", x.show(1, 1), FULL);
        checks.due("the seventh, and bad", x.show(2, 1), BAD);
        checks.due("six are SHOWN", x.count(6), 6);
        checks.due("nothing to be UNDONE", x.count(7), 0);
        x.pass(1);
        checks.due("six behind an HOUR", x.count(6), 6);
    }

    private static void forget() {
        BlueByTouch x = Checks.house("i0,9;i3,0;");
        checks.due("forget nothing", x.forget(), 0);
        x.show(0, 0);
        x.show(1, 0);
        checks.due("none fits", x.touched(0), 0);
        checks.due("forget two", x.forget(), 2);
        checks.due("nothing is SHOWN", x.count(6), 0);
        checks.due("all fit", x.touched(0), 1);
        checks.due("forget again", x.forget(), 0);
        checks.due("one is SHOWN", x.show(1, 8), 1);
        checks.due("only it counts", x.touched(0), 1);
    }

    private static void touched() {
        BlueByTouch x = Checks.house("i3,2;i0,9;i4,0;i0,5;i5,0;i1,3;");
        checks.due("of all twos", x.touched(0), 15);
        checks.due("the first of all twos", x.touched(1), 1);
        x.show(2, 8);
        checks.due("DAMP got 8", x.touched(0), 2);
        checks.due("from 1 first", x.touched(1), 12);
        x.show(4, 0);
        checks.due("the DUKE stays either way", x.touched(0), 2);
        x.show(1, 9);
        x.show(2, 0);
        checks.due("8 and 0 can't both be", x.touched(0), 0);
        checks.due("the first of none", x.touched(1), NONE);
        x.forget();
        x.show(5, 4);
        checks.due("nobody makes the GLOVE a 4", x.touched(0), 0);
        x.forget();
        x.show(5, 3);
        x.show(0, 2);
        checks.due("all but 01, 03, 04, 15, 45", x.touched(0), 10);
        checks.due("the first of them", x.touched(1), 2);
        x.wash(3);
        x.wash(3);
        checks.due("now, behind two washings, 03, too", x.touched(0), 11);
        x.wash(1);
        x.forget();
        x.show(2, 6);
        checks.due("7 gives 6 now", x.touched(1), 12);
        checks.dueShades("behind touched", x, "270103");
        checks.due("touched(2)", x.touched(2), BAD);
        checks.due("touched(-1)", x.touched(-1), BAD);
        BlueByTouch one = Checks.house("i0,9;");
        checks.due("no twos", one.touched(0), 0);
        checks.due("the first of no twos", one.touched(1), NONE);
    }

    private static void order() {
        // 0 to 1, 1 to 2, 2 to 3: a chain. Told last to first, with hours that say otherwise.
        BlueByTouch x = Checks.house("i0,9;i0,0;i0,0;i0,0;t2,2,3;t1,1,2;t0,0,1;w0,1;s3;");
        checks.due("all orders", x.order(0), 6);
        checks.due("the told one", x.order(1), 1);
        x.show(3, 6);
        checks.due("one leads to 3", x.order(0), 1);
        checks.due("not the told one", x.order(1), 0);
        x.forget();
        x.show(2, 7);
        x.show(3, 0);
        checks.due("to 2, not 3", x.order(0), 2);
        x.forget();
        x.show(2, 0);
        checks.due("not to 2", x.order(0), 3);
        checks.due("the told one is such", x.order(1), 1);
        x.pass(24);
        x.wash(0);
        checks.due("from SHADES as LAID", x.order(0), 3);
        checks.due("from SHADES as LAID, the told one", x.order(1), 1);
        x.show(2, 1);
        checks.due("none", x.order(0), 0);
        checks.due("order(2)", x.order(2), BAD);
        checks.due("order(-1)", x.order(-1), BAD);
        BlueByTouch none = Checks.house("i0,9;");
        checks.due("of no touches one order", none.order(0), 1);
        checks.due("the told order of none", none.order(1), 1);
        none.show(0, 8);
        checks.due("of no touches, not so", none.order(0), 0);
        checks.due("the told order of none, not so", none.order(1), 0);
        BlueByTouch told = Checks.house("i0,9;i0,0;i0,0;t5,0,1;t0,1,2;");
        told.show(2, 7);
        checks.due("one of two", told.order(0), 1);
        checks.due("as told in the text, not by hours", told.order(1), 1);
        told.show(1, 9);
        checks.due("but not that, too", told.order(1), 0);
        BlueByTouch twice = Checks.house("i0,9;i0,0;i0,0;t0,0,1;t0,0,1;t0,1,2;");
        twice.show(2, 7);
        checks.due("two that are told alike are two", twice.order(0), 4);
    }

    private static void orderOfSixAtMost() {
        BlueByTouch x = Checks.house("i0,9;i0,0;i0,0;i0,0;i0,0;t0,1,2;t0,1,2;t0,1,2;t0,1,2;t0,1,2;t0,0,1;t0,0,3;t0,3,4;");
        checks.due("of six", x.order(0), 720);
        x.show(2, 7);
        checks.due("the DYE came first, ahead of one at least", x.order(0), 600);
        checks.due("told it comes last", x.order(1), 0);
        x.forget();
        x.show(3, 0);
        checks.due("the seventh is not done", x.order(0), 720);
        checks.due("the seventh is not done, as told", x.order(1), 1);
    }

    private static void box() {
        BlueByTouch x = Checks.house("i0,3;i1,4;i3,5;i4,6;i5,7;i2,8;");
        checks.due("nothing SHOWN", x.box(), 63);
        x.show(3, 9);
        checks.due("it was there", x.box(), 8);
        x.show(0, 9);
        checks.due("it can't be in two", x.box(), 0);
        x.forget();
        x.show(3, 0);
        x.show(4, 0);
        checks.due("it was elsewhere", x.box(), 63 - 8 - 16);
        x.touch(0, 1);
        x.wash(0);
        x.powder(0);
        checks.due("nothing else being done", x.box(), 63 - 8 - 16);
        checks.dueShades("behind box", x, "145678");
    }

    private static void boxOfHours() {
        BlueByTouch x = Checks.house("i0,1;i0,2;i3,3;i4,4;t1,0,2;t3,2,1;w1,0;");
        x.pass(2);
        x.show(2, 8);
        checks.due("a CUP that 0 touched", x.box(), 1);
        x.pass(2);
        checks.due("it is 8 still", x.box(), 1);
        x.pass(2);
        checks.due("a CUP is 1 lighter behind hour 5", x.box(), 4);
        x.forget();
        x.show(1, 6);
        checks.due("a HAND that the CUP touched, 1 lighter", x.box(), 1);
        x.undo();
        x.undo();
        checks.due("HOURS that were UNDONE are not gone by", x.box(), 0);
        BlueByTouch y = Checks.house("i3,0;i0,0;");
        y.pass(24);
        y.pass(23);
        y.show(0, 2);
        checks.due("a CUP behind 47 HOURS", y.box(), 1);
        y.forget();
        y.show(0, 1);
        y.pass(1);
        checks.due("behind 48", y.box(), 1);
        y.pass(24);
        checks.due("48 at most", y.box(), 1);
    }

    private static void from() {
        BlueByTouch x = Checks.house("i0,0;i3,0;i4,0;i5,0;i1,0;t5,0,1;t2,1,2;t2,2,3;t2,1,2;t11,3,4;t5,4,0;");
        int[][] want = {
            // i, h, ITEMS
            {0, 0, 1}, {0, 4, 1}, {0, 5, 1 + 2 + 4 + 8 + 16}, {1, 1, 2}, {1, 2, 2 + 4 + 8}, {2, 2, 2 + 4 + 8},
            {3, 2, 2 + 4 + 8}, {3, 10, 2 + 4 + 8}, {4, 5, 1 + 2 + 4 + 8 + 16}, {3, 11, 31}, {1, 11, 1 + 2 + 4 + 8},
            {4, 4, 16}, {2, 11, 2 + 4 + 8}};
        for (int[] row : want) {
            checks.due("from(" + row[0] + ", " + row[1] + ")", x.from(row[0], row[1]), row[2]);
        }
        BlueByTouch y = Checks.house("i0,0;i0,0;i0,0;t0,0,1;t0,1,2;");
        checks.due("as told: to 2 from 0", y.from(2, 0), 7);
        checks.due("as told: to 0 from 2", y.from(0, 0), 3);
        checks.due("no touch told", Checks.house("i0,0;i0,0;").from(1, 11), 2);
    }

    private static void led() {
        BlueByTouch x = Checks.house("i0,0;i3,0;i4,0;i5,0;i1,0;t5,0,1;t2,1,2;t2,2,3;t2,1,2;t11,3,4;t5,4,0;t11,1,3;");
        int[][] want = {
            // a, b, h, touches
            {0, 0, 0, 0}, {0, 1, 4, NONE}, {0, 1, 5, 1}, {1, 2, 2, 1}, {1, 3, 2, 2}, {3, 1, 2, 2}, {2, 1, 2, 1},
            {3, 0, 5, 3}, {3, 4, 5, 4}, {3, 4, 11, 1}, {0, 2, 11, NONE}, {0, 4, 11, 1}, {0, 3, 11, 2}, {2, 0, 11, 2},
            {4, 0, 5, 1}, {1, 4, 5, 2}, {4, 1, 11, 2}, {1, 3, 11, 1}};
        for (int[] row : want) {
            String call = "led(" + row[0] + ", " + row[1] + ", " + row[2] + ")";
            checks.due(call, x.led(row[0], row[1], row[2]), row[3]);
        }
        BlueByTouch y = Checks.house("i0,0;i0,0;i0,0;i0,0;t0,0,1;t1,1,2;t2,2,3;t3,0,2;t4,2,3;");
        checks.due("by three first", y.led(0, 3, 3), 3);
        checks.due("by two later", y.led(0, 3, 4), 2);
        checks.due("two ahead of the shorter", y.led(0, 2, 2), 2);
        checks.due("one behind it", y.led(0, 2, 3), 1);
        checks.due("back by one", y.led(3, 0, 3), 2);
    }

    private static void fromAndLedAreRefused() {
        BlueByTouch x = Checks.house("i0,0;i3,0;t0,0,1;");
        int[][] bad = {{2, 0}, {-1, 0}, {0, -1}, {0, 12}, {0, Integer.MAX_VALUE}, {Integer.MIN_VALUE, 0}};
        for (int[] row : bad) {
            checks.due("from(" + row[0] + ", " + row[1] + ")", x.from(row[0], row[1]), BAD);
            checks.due("led(" + row[0] + ", 0, " + row[1] + ")", x.led(row[0], 0, row[1]), BAD);
            checks.due("led(0, " + row[0] + ", " + row[1] + ")", x.led(0, row[0], row[1]), BAD);
        }
        checks.due("led(2, 2, 0)", x.led(2, 2, 0), BAD);
    }
}
