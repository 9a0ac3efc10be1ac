/** Promises 1 to 7: a new object, write, wipe, fault, lay, item, hour. */
public final class HousesTest {
    private static final int BAD = -1, NO = -2, FULL = -3, NONE = -4;
    private static final Checks checks = new Checks();

    public static void main(String[] args) {
        aNewObject();
        write();
        wipe();
        faultOfItems();
        faultOfTouches();
        faultOfWashingsAndSupper();
        lay();
        layIsRefused();
        item();
        hour();
        checks.end();
    }

    private static void aNewObject() {
        BlueByTouch x = new BlueByTouch();
        int[] counts = {7, 5, 5, 0, 0, 1, 0, 0, 0, 0, 7};
        for (int what = 0; what < counts.length; what++) {
            checks.due("new: count(" + what + ")", x.count(what), counts[what]);
        }
        int[] kinds = {5, 3, 0, 1, 2, 4, 0};
        for (int i = 0; i < kinds.length; i++) {
            checks.due("new: item(" + i + ", 0)", x.item(i, 0), kinds[i]);
            checks.due("new: item(" + i + ", 4)", x.item(i, 4), 0);
        }
        checks.dueShades("of a new object", x, "0000060");
        int[] touches = {1, 1, 1, 1, 1, 0, 0, 0, 0, 0, 0, 0};
        for (int h = 0; h < 12; h++) {
            checks.due("new: hour(" + h + ", 0)", x.hour(h, 0), touches[h]);
            checks.due("new: hour(" + h + ", 1)", x.hour(h, 1), h == 5 ? 1 : 0);
        }
        checks.due("new: fault()", x.fault(), NONE);
        checks.due("new: lay()", x.lay(), NO);
        checks.due("new: undo()", x.undo(), NO);
        checks.due("new: back()", x.back(), NO);
        checks.due("new: forget()", x.forget(), 0);
        checks.due("new: wipe()", x.wipe(), 0);
        int[] from = {1 + 2, 1 + 2 + 4, 1 + 2 + 4 + 64, 8 + 32, 16 + 8 + 32, 16 + 8 + 32, 1 + 2 + 4 + 64};
        for (int i = 0; i < from.length; i++) {
            checks.due("new: from(" + i + ", 4)", x.from(i, 4), from[i]);
        }
        // The HAND of 7 is 6 behind hour 2, 4 by the washing of hour 5, and 3 behind it.
        checks.due("new: behind(6, 2, 0)", x.behind(6, 2, 0), 3);
    }

    private static void write() {
        BlueByTouch x = new BlueByTouch();
        for (int letter : new int[] {31, 127, 0, -1, 10, 200, Integer.MIN_VALUE, Integer.MAX_VALUE, 65536 + 105}) {
            checks.due("write(" + letter + ")", x.write(letter), BAD);
        }
        checks.due("nothing was written", x.count(9), 0);
        checks.due("write(32)", x.write(32), 1);
        checks.due("write(126)", x.write(126), 2);
        for (int n = 3; n <= 200; n++) {
            checks.due("letter " + n, x.write('i'), n);
        }
        checks.due("write, full", x.write('i'), FULL);
        checks.due("write, full and bad", x.write(31), BAD);
        checks.due("still full", x.count(9), 200);
        checks.due("fault of a full TEXT", x.fault(), 0);
        checks.due("wipe, full", x.wipe(), 200);
        checks.due("write behind wipe", x.write('i'), 1);
    }

    private static void wipe() {
        BlueByTouch x = Checks.house("i0,3;i3,4;t2,0,1;");
        x.pass(1);
        x.show(0, 3);
        checks.due("wipe", x.wipe(), 17);
        checks.due("wipe again", x.wipe(), 0);
        checks.due("letters behind wipe", x.count(9), 0);
        checks.due("fault behind wipe", x.fault(), NONE);
        checks.due("the house stays: ITEMS", x.count(0), 2);
        checks.due("the house stays: touches", x.count(2), 1);
        checks.due("the hour stays", x.count(3), 1);
        checks.due("SHOWN stays", x.count(6), 1);
        checks.due("UNDONE stays", x.count(7), 1);
        Checks.write(x, "i0");
        checks.due("wiped letters are not read", x.fault(), 0);
    }

    private static void fault(String text, int want) {
        BlueByTouch x = new BlueByTouch();
        Checks.write(x, text);
        checks.due("fault() of " + text, x.fault(), want);
        checks.due("the first house stays by fault()", x.count(0), 7);
    }

    private static void faultOfItems() {
        fault("", NONE);
        fault("i0,0;", NONE);
        fault("i5,9;", NONE);
        fault("i6,0;", 0);
        fault("i0,10;", 0);
        fault("i00,09;", NONE);
        fault("i000,0;", 0);
        fault("i0,000;", 0);
        fault("i99,0;", 0);
        fault("i0,0", 0);
        fault("i0,", 0);
        fault("i0", 0);
        fault("i", 0);
        fault("i;", 0);
        fault("i0;", 0);
        fault("i0,;", 0);
        fault("i,0;", 0);
        fault("i0,0,0;", 0);
        fault("i0,0,0,0;", 0);
        fault("i0,0,;", 0);
        fault("i-1,0;", 0);
        fault("i0 ,0;", 0);
        fault("I0,0;", 0);
        fault("x0,0;", 0);
        fault("0,0;", 0);
        fault(" i0,0;", 0);
        fault("i0,0; ", 5);
        fault("i0,0;;", 5);
        fault("i0,0;i0,0", 5);
        fault("i0,0;i6,0;x", 5);
        fault("i00,0;x", 6);
        fault("i0,0;".repeat(9), NONE);
        fault("i0,0;".repeat(10), 45);
        fault("i0,0;".repeat(9) + "i6,0;", 45);
    }

    private static void faultOfTouches() {
        String two = "i0,0;i4,0;";
        fault("t0,0,1;", 0);
        fault(two + "t0,0,1;", NONE);
        fault(two + "t11,1,0;", NONE);
        fault(two + "t12,1,0;", 10);
        fault(two + "t0,0,0;", 10);
        fault(two + "t0,0,00;", 10);
        fault(two + "t0,0,01;", NONE);
        fault(two + "t0,0,2;", 10);
        fault(two + "t0,2,0;", 10);
        fault(two + "t0,0;", 10);
        fault(two + "t0,0,1,1;", 10);
        fault(two + "t0,0,1", 10);
        fault("i0,0;t0,0,1;i0,0;", 5);
        fault(two + "t3,0,1;".repeat(10), NONE);
        fault(two + "t3,0,1;".repeat(11), 80);
    }

    private static void faultOfWashingsAndSupper() {
        String two = "i0,0;i4,0;";
        fault("w0,0;", 0);
        fault(two + "w0,0;", NONE);
        fault(two + "w11,0;", NONE);
        fault(two + "w12,0;", 10);
        fault(two + "w0,1;", 10);
        fault(two + "w0,2;", 10);
        fault(two + "w0;", 10);
        fault(two + "w0,0,0;", 10);
        fault("i3,0;w0,0;", 5);
        fault("i1,0;i2,0;i5,0;w0,0;w0,1;w0,2;", NONE);
        fault(two + "w3,0;".repeat(4), NONE);
        fault(two + "w3,0;".repeat(5), 30);
        fault("s0;", NONE);
        fault("s11;s0;s7;s07;", NONE);
        fault("s12;", 0);
        fault("s;", 0);
        fault("s7,0;", 0);
        fault("s7;s12;", 3);
        fault("s7;".repeat(66), NONE);
    }

    private static void lay() {
        BlueByTouch x = new BlueByTouch();
        x.pass(5);
        x.powder(2);
        x.show(2, 3);
        x.keep();
        Checks.write(x, "i0,3;i3,4;i5,9;t2,0,1;t2,1,0;t11,2,0;w4,0;s3;s9;");
        checks.due("lay", x.lay(), 3);
        int[] counts = {3, 2, 3, 0, 0, 3, 0, 0, 0, 48, 9};
        for (int what = 0; what < counts.length; what++) {
            checks.due("laid: count(" + what + ")", x.count(what), counts[what]);
        }
        checks.due("no POWDER", x.item(2, 4), 0);
        checks.due("undo behind lay", x.undo(), NO);
        checks.due("back behind lay", x.back(), NO);
        x.touch(0, 2);
        x.pass(24);
        checks.due("lay again", x.lay(), 3);
        checks.dueShades("as LAID again", x, "349");
        checks.due("HOURS gone by behind lay", x.count(4), 0);
        x.wipe();
        Checks.write(x, "i2,1;");
        checks.due("lay one", x.lay(), 1);
        checks.due("no touch told", x.count(2), 0);
        checks.due("no washing told", x.hour(4, 1), 0);
        checks.due("SUPPER without", x.count(10), 7);
        checks.due("an ITEM that is gone", x.item(1, 0), BAD);
    }

    private static void layIsRefused() {
        BlueByTouch x = Checks.house("i0,3;i3,4;t2,0,1;");
        x.pass(1);
        x.powder(0);
        x.show(1, 4);
        x.keep();
        for (String text : new String[] {"", "i3,0;", "i3,0;i4,9;s3;", "s7;", "i0,0;x", "i0,0;i0,0"}) {
            x.wipe();
            Checks.write(x, text);
            checks.due("lay of " + text, x.lay(), NO);
            checks.due("letters stay", x.count(9), text.length());
            checks.due("ITEMS stay", x.count(0), 2);
            checks.due("touches stay", x.count(2), 1);
            checks.due("the hour stays", x.count(3), 1);
            checks.due("POWDER stays", x.item(0, 4), 1);
            checks.due("SHOWN stays", x.count(6), 1);
            checks.due("UNDONE stays", x.count(7), 2);
            checks.due("KEPT stays", x.count(8), 1);
            checks.due("SUPPER stays", x.count(10), 7);
        }
        for (int kind : new int[] {0, 1, 2, 5}) {
            checks.due("PEOPLE of KIND " + kind, Checks.house("i3,0;i" + kind + ",0;").count(1), 1);
        }
    }

    private static void item() {
        BlueByTouch x = Checks.house("i0,1;i1,2;i2,3;i3,4;i4,5;i5,6;");
        x.powder(1);
        x.powder(5);
        int[][] want = {{0, 1, 1, 1, 0}, {1, 2, 0, 1, 1}, {2, 3, 3, 1, 0}, {3, 4, 4, 0, 0}, {4, 5, 5, 0, 0}, {5, 6, 0, 1, 1}};
        for (int i = 0; i < 6; i++) {
            for (int what = 0; what < 5; what++) {
                checks.due("item(" + i + ", " + what + ")", x.item(i, what), want[i][what]);
            }
            checks.due("item(" + i + ", 5)", x.item(i, 5), BAD);
            checks.due("item(" + i + ", -1)", x.item(i, -1), BAD);
        }
        for (int i : new int[] {6, 8, 9, -1, 32, Integer.MIN_VALUE, Integer.MAX_VALUE}) {
            checks.due("item(" + i + ", 0)", x.item(i, 0), BAD);
        }
    }

    private static void hour() {
        BlueByTouch x = Checks.house("i0,1;i1,2;t0,0,1;t11,0,1;t11,1,0;t11,0,1;w0,1;w0,0;w11,0;");
        x.pass(5);
        int[] touches = {1, 0, 0, 0, 0, 0, 0, 0, 0, 0, 0, 3};
        int[] washings = {2, 0, 0, 0, 0, 0, 0, 0, 0, 0, 0, 1};
        for (int h = 0; h < 12; h++) {
            checks.due("hour(" + h + ", 0)", x.hour(h, 0), touches[h]);
            checks.due("hour(" + h + ", 1)", x.hour(h, 1), washings[h]);
            checks.due("hour(" + h + ", 2)", x.hour(h, 2), BAD);
            checks.due("hour(" + h + ", -1)", x.hour(h, -1), BAD);
        }
        checks.due("hour(-1, 0)", x.hour(-1, 0), BAD);
        checks.due("hour(12, 0)", x.hour(12, 0), BAD);
        checks.due("hour(12, 1)", x.hour(12, 1), BAD);
        BlueByTouch none = Checks.house("i0,1;");
        checks.due("no touch told for hour 0", none.hour(0, 0), 0);
        checks.due("no washing told for hour 0", none.hour(0, 1), 0);
    }
}
