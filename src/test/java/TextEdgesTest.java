/** The boundary cases that the document names for promises 1 to 7, a check or more for each sentence. */
public final class TextEdgesTest {
    private static final int BAD = -1, NO = -2, FULL = -3, NONE = -4;
    private static final String NINE = "i0,9;i1,8;i2,7;i3,6;i4,5;i5,4;i0,3;i2,2;i0,0;";
    private static final String TEN = "t0,0,1;t1,1,2;t2,2,3;t3,3,4;t4,4,5;t5,5,6;t6,6,7;t7,7,8;t8,8,0;t9,0,8;";
    private static final String FOUR = "w0,0;w1,1;w2,2;w3,8;";
    private static final Checks checks = new Checks();

    public static void main(String[] args) {
        theLastLetterOfAFullText();
        aFullTextIsCut();
        allThatCanBeTold();
        oneMoreIsNotTaken();
        aNumberHasOneOrTwoFigures();
        eachKindAndShade();
        toldAheadNotBehind();
        theFirstFaultOfSeveral();
        theFirstAndTheLastHourTold();
        ofSeveralSuppersTheLastOne();
        onePersonAtLeast();
        theSmallestHouse();
        wipeEmptyAndFull();
        layForgetsAllButTheText();
        hoursThatHoldAll();
        checks.end();
    }

    private static BlueByTouch written(String text) {
        BlueByTouch x = new BlueByTouch();
        Checks.write(x, text);
        checks.due("letters of " + text, x.count(9), text.length());
        return x;
    }

    private static void fault(String text, int want) {
        checks.due("fault() of " + text, written(text).fault(), want);
    }

    /** A TEXT is letters (200 at most). */
    private static void theLastLetterOfAFullText() {
        String most = "s7;".repeat(64) + "s07;s11;";
        checks.due("letters in it", most.length(), 200);
        fault(most, NONE);
        fault(most.substring(0, 199), 196);
        fault("s7;".repeat(65) + "s07;" + "i", 199);
        fault("s7;".repeat(65) + "s07;" + " ", 199);
        fault(" ".repeat(200), 0);
        BlueByTouch x = written("i0,5;".repeat(2) + "s3;".repeat(62) + "s11");
        checks.due("one letter is missing", x.lay(), NO);
        checks.due("the 200th letter", x.write(';'), 200);
        checks.due("none is missing", x.lay(), 2);
        checks.due("SUPPER by the last letters", x.count(10), 11);
    }

    private static void aFullTextIsCut() {
        BlueByTouch x = written("s7;".repeat(66) + "s7");
        checks.due("the 201st letter", x.write(';'), FULL);
        checks.due("it did not come", x.fault(), 198);
        checks.due("lay", x.lay(), NO);
        checks.due("the smallest letter, full", x.write(32), FULL);
        checks.due("the largest letter, full", x.write(126), FULL);
        checks.due("below the smallest, full", x.write(31), BAD);
        checks.due("above the largest, full", x.write(127), BAD);
        checks.due("200 letters", x.count(9), 200);
    }

    /** 9 ITEMS, 10 touches, 4 washings and SUPPERS up to the 200th letter. */
    private static void allThatCanBeTold() {
        String all = NINE + TEN + FOUR + "s3;".repeat(19) + "s07;s11;";
        BlueByTouch x = written(all);
        checks.due("letters", x.count(9), 200);
        checks.due("fault", x.fault(), NONE);
        checks.due("lay", x.lay(), 9);
        int[] counts = {9, 7, 10, 0, 0, 8, 0, 0, 0, 200, 11};
        for (int what = 0; what < counts.length; what++) {
            checks.due("all told: count(" + what + ")", x.count(what), counts[what]);
        }
        checks.dueShades("of all", x, "987654320");
        int[] kinds = {0, 1, 2, 3, 4, 5, 0, 2, 0};
        for (int i = 0; i < 9; i++) {
            checks.due("KIND of " + i, x.item(i, 0), kinds[i]);
            checks.due("of the PEOPLE: " + i, x.item(i, 3), i == 3 || i == 4 ? 0 : 1);
        }
        checks.due("there is no ITEM 9", x.item(9, 0), BAD);
        for (int h = 0; h < 12; h++) {
            checks.due("touches of hour " + h, x.hour(h, 0), h < 10 ? 1 : 0);
            checks.due("washings of hour " + h, x.hour(h, 1), h < 4 ? 1 : 0);
        }
        checks.due("lay again", x.lay(), 9);
    }

    /** 9 ITEMS at most; 10 touches at most; 4 washings at most. */
    private static void oneMoreIsNotTaken() {
        fault(NINE, NONE);
        fault(NINE + "i0,0;", 45);
        fault(NINE + TEN, NONE);
        fault(NINE + TEN + "t0,0,1;", 115);
        fault(NINE + TEN + "t11,8,7;", 115);
        fault(NINE + FOUR, NONE);
        fault(NINE + FOUR + "w0,0;", 65);
        fault(NINE + FOUR + TEN + "i0,0;", 135);
        fault(NINE + TEN + FOUR + "s0;", NONE);
        fault(NINE + "t0,8,0;", NONE);
        fault(NINE + "t0,0,8;", NONE);
        fault(NINE + "t0,9,0;", 45);
        fault(NINE + "t0,0,9;", 45);
        fault(NINE + "t0,0,10;", 45);
        fault(NINE + "t0,99,98;", 45);
        fault(NINE + "w0,8;", NONE);
        fault(NINE + "w0,9;", 45);
        fault(NINE + "w0,10;", 45);
    }

    private static void aNumberHasOneOrTwoFigures() {
        fault("i0,0;i0,0;t00,00,01;w00,01;s00;", NONE);
        fault("i0,0;i0,0;t000,0,1;", 10);
        fault("i0,0;i0,0;t0,000,1;", 10);
        fault("i0,0;i0,0;t0,0,001;", 10);
        fault("i0,0;i0,0;t,0,1;", 10);
        fault("i0,0;i0,0;t0,,1;", 10);
        fault("i0,0;i0,0;t0,0,;", 10);
        fault("i0,0;w000,0;", 5);
        fault("i0,0;w0,000;", 5);
        fault("i0,0;w,0;", 5);
        fault("i0,0;w0,;", 5);
        fault("s000;", 0);
        fault("s100;", 0);
        fault("s0", 0);
        fault("s0,;", 0);
        fault("s 0;", 0);
        fault("s/;", 0);
        fault("s:;", 0);
        fault("s0.", 0);
        fault("S0;", 0);
        fault("T0,0,1;", 0);
        fault(";", 0);
        fault(",", 0);
        fault("i0;0;", 0);
        fault("i0,0,;", 0);
        fault("i0,0;i0,0;t0,0,1,;", 10);
        fault("i0,0;i0,0;t0,0,1,0;", 10);
        fault("i0,0;i0,0;t0,1;", 10);
        fault("i0,0;i0,0;t0;", 10);
        fault("i0,0;w0,0,0;", 5);
    }

    /** KIND 0 to 5, SHADE 0 to 9. */
    private static void eachKindAndShade() {
        for (int kind = 0; kind <= 5; kind++) {
            for (int shade = 0; shade <= 9; shade++) {
                BlueByTouch x = written("i0,1;i" + kind + "," + shade + ";");
                checks.due("lay", x.lay(), 2);
                checks.due("KIND " + kind, x.item(1, 0), kind);
                checks.due("SHADE " + shade, x.item(1, 1), shade);
                checks.due("SEEN " + shade, x.item(1, 2), shade);
            }
            fault("i0,1;i" + kind + ",10;", 5);
        }
        for (int kind : new int[] {6, 7, 9, 10, 50, 99}) {
            fault("i0,1;i" + kind + ",0;", 5);
        }
        fault("i0,99;", 0);
        fault("i05,09;", NONE);
    }

    /** Both told ahead; one of the PEOPLE told ahead. */
    private static void toldAheadNotBehind() {
        fault("i0,0;t0,0,1;i0,0;", 5);
        fault("i0,0;t0,1,0;i0,0;", 5);
        fault("t0,0,1;i0,0;i0,0;", 0);
        fault("i0,0;i0,0;t0,0,1;i0,0;t0,2,1;", NONE);
        fault("i0,0;i0,0;t0,2,1;i0,0;", 10);
        fault("w0,0;i0,0;", 0);
        fault("i0,0;w0,1;i0,0;", 5);
        fault("i0,0;i0,0;w0,1;", NONE);
        fault("i3,0;i0,0;w0,1;", NONE);
        fault("i3,0;i0,0;w0,0;", 10);
        fault("i4,0;i0,0;w0,0;", 10);
        fault("s0;i0,0;", NONE);
        fault("i3,0;i4,0;t0,0,1;", NONE);
        fault("i3,0;i4,0;t0,1,1;", 10);
    }

    private static void theFirstFaultOfSeveral() {
        fault("x", 0);
        fault("i0,0;x;y;", 5);
        fault("i0,0;s12;i6,0;", 5);
        fault("i0,0;i6,0;s12;", 5);
        fault("i00,00;s11;s12;s13", 11);
        fault("s0;i0,0;t0,0,0;i9,9;", 8);
        fault("i0,0;;i0,0;", 5);
        fault("i0,0i0,0;", 0);
        fault("i0,0;i0,0;i0,0", 10);
    }

    /** H 0 to 11. */
    private static void theFirstAndTheLastHourTold() {
        for (int h = 0; h <= 12; h++) {
            int want = h < 12 ? NONE : 10;
            fault("i0,0;i0,0;t" + h + ",0,1;", want);
            fault("i0,0;i0,0;w" + h + ",0;", want);
            fault("i0,0;i0,0;s" + h + ";", want);
        }
        fault("i0,0;i0,0;t99,0,1;", 10);
        fault("i0,0;w99,0;", 5);
        fault("s99;", 0);
        fault("s20;", 0);
    }

    /** SUPPER is behind hour H (0 to 11; 7 without; of several such the last one counts). */
    private static void ofSeveralSuppersTheLastOne() {
        for (int h = 0; h <= 11; h++) {
            BlueByTouch x = Checks.house("s5;i0,9;s" + h + ";");
            checks.due("SUPPER's hour", x.count(10), h);
            x.powder(0);
            for (int hour = 0; hour <= 11; hour++) {
                checks.due("POWDER ahead of hour " + hour + ", SUPPER " + h, x.item(0, 4), hour <= h ? 1 : 0);
                x.pass(1);
            }
            x.powder(0);
            x.pass(h + 1);
            checks.due("behind SUPPER of the next day", x.item(0, 4), 0);
        }
        checks.due("the last of three", Checks.house("s0;i0,0;s11;s00;").count(10), 0);
        checks.due("7 without", Checks.house("i0,0;").count(10), 7);
        BlueByTouch again = Checks.house("i0,0;s3;");
        again.wipe();
        Checks.write(again, "i0,0;");
        again.lay();
        checks.due("7 without, though 3 was told ahead", again.count(10), 7);
    }

    /** LAID is a TEXT without FAULT, of one of the PEOPLE at least. */
    private static void onePersonAtLeast() {
        checks.due("no letter", written("").lay(), NO);
        checks.due("no ITEM", written("s7;").lay(), NO);
        checks.due("a CUP", written("i3,9;").lay(), NO);
        checks.due("what is DAMP", written("i4,9;").lay(), NO);
        checks.due("nine THINGS", written("i3,9;i4,9;".repeat(4) + "i3,0;").lay(), NO);
        checks.due("nine THINGS have no FAULT", written("i3,9;i4,9;".repeat(4) + "i3,0;").fault(), NONE);
        for (int kind : new int[] {0, 1, 2, 5}) {
            BlueByTouch x = written("i3,9;i4,9;".repeat(4) + "i" + kind + ",0;");
            checks.due("eight THINGS and KIND " + kind, x.lay(), 9);
            checks.due("one of the PEOPLE", x.count(1), 1);
        }
        BlueByTouch all = written("i0,0;i1,0;i2,0;i5,0;".repeat(2) + "i0,0;");
        checks.due("nine PEOPLE", all.lay(), 9);
        checks.due("nine of the PEOPLE", all.count(1), 9);
        checks.due("PEOPLE, but a FAULT", written("i0,0;i6,0;").lay(), NO);
    }

    private static void theSmallestHouse() {
        BlueByTouch x = Checks.house("i0,0;");
        int[] counts = {1, 1, 0, 0, 0, 0, 0, 0, 0, 5, 7};
        for (int what = 0; what < counts.length; what++) {
            checks.due("the smallest: count(" + what + ")", x.count(what), counts[what]);
        }
        checks.due("its ITEM", x.item(0, 0), 0);
        checks.due("no second one", x.item(1, 0), BAD);
        checks.due("touching nobody", x.touch(0, 0), BAD);
        checks.due("touching nobody", x.touch(0, 1), BAD);
        checks.due("touched", x.touched(0), 0);
        checks.due("the first of none", x.touched(1), NONE);
        checks.due("alike", x.alike(0), 0);
        checks.due("order", x.order(0), 1);
        checks.due("box", x.box(), 1);
        checks.due("from", x.from(0, 11), 1);
        checks.due("led", x.led(0, 0, 11), 0);
        checks.due("dogs", x.dogs(9999, 48, 0), 0);
        checks.due("asIf none", x.asIf(0, 9, 0), NONE);
        checks.due("asIf at once", x.asIf(0, 0, 0), 0);
    }

    private static void wipeEmptyAndFull() {
        BlueByTouch x = new BlueByTouch();
        checks.due("wipe nothing", x.wipe(), 0);
        x.write('s');
        checks.due("wipe one", x.wipe(), 1);
        Checks.write(x, "i0,0;".repeat(40));
        checks.due("wipe 200", x.wipe(), 200);
        checks.due("wipe nothing again", x.wipe(), 0);
        checks.due("nothing is no FAULT", x.fault(), NONE);
        checks.due("nothing can't be LAID", x.lay(), NO);
        Checks.write(x, "i0,0;");
        checks.due("what was wiped is not read", x.fault(), NONE);
        checks.due("one ITEM", x.lay(), 1);
    }

    /** Hour 0, no POWDER, nothing SHOWN, UNDONE, KEPT; THE TEXT stays. */
    private static void layForgetsAllButTheText() {
        BlueByTouch x = Checks.house("i0,9;i0,8;i3,0;t0,0,2;");
        x.pass(11);
        for (int n = 0; n < 6; n++) {
            x.show(2, n);
        }
        for (int n = 0; n < 9; n++) {
            x.touch(0, 1);
        }
        x.powder(0);
        x.powder(1);
        x.keep();
        x.keep();
        checks.due("lay", x.lay(), 3);
        checks.due("hour 0", x.count(3), 0);
        checks.due("HOURS gone by", x.count(4), 0);
        checks.due("no POWDER", x.item(0, 4) + x.item(1, 4) + x.item(2, 4), 0);
        checks.due("nothing SHOWN", x.forget(), 0);
        checks.due("nothing UNDONE", x.undo(), NO);
        checks.due("nothing KEPT", x.back(), NO);
        checks.due("THE TEXT stays", x.count(9), 22);
        checks.due("THE TEXT is the same", x.lay(), 3);
        checks.dueShades("as told", x, "980");
        checks.due("two can be KEPT again", x.keep() + 10 * x.keep(), 21);
        checks.due("six can be SHOWN again", x.show(0, 0), 1);
    }

    private static void hoursThatHoldAll() {
        for (int h : new int[] {0, 11}) {
            BlueByTouch x = Checks.house("i0,0;i0,0;" + ("t" + h + ",0,1;").repeat(10) + ("w" + h + ",1;").repeat(4));
            for (int hour = 0; hour <= 11; hour++) {
                checks.due("touches of hour " + hour, x.hour(hour, 0), hour == h ? 10 : 0);
                checks.due("washings of hour " + hour, x.hour(hour, 1), hour == h ? 4 : 0);
            }
        }
        BlueByTouch x = Checks.house("i0,0;");
        int[][] bad = {{-1, 0}, {12, 0}, {-1, 1}, {12, 1}, {0, -1}, {0, 2}, {11, 2}, {12, 2},
            {Integer.MIN_VALUE, 0}, {Integer.MAX_VALUE, 1}, {0, Integer.MIN_VALUE}, {11, Integer.MAX_VALUE}};
        for (int[] row : bad) {
            checks.due("hour(" + row[0] + ", " + row[1] + ")", x.hour(row[0], row[1]), BAD);
        }
    }
}
