/** The boundary cases that the document names for promises 14 to 27, a check or more for each sentence. */
public final class AskEdgesTest {
    private static final int BAD = -1, NO = -2, FULL = -3, NONE = -4;
    private static final Checks checks = new Checks();

    public static void main(String[] args) {
        asIfByNoTouch();
        asIfEachShade();
        asIfTheFirstAndTheLastItem();
        soapEachShade();
        alikeOfNine();
        alikeOfNone();
        shownNoneToSix();
        shownEachShade();
        touchedOfNine();
        touchedTheLastTwo();
        ordersOfNoneToTen();
        orderFromShadesAsLaid();
        orderWhoeverTouches();
        boxAtOnce();
        boxBehindFortyEightAtMost();
        fromHourNoneToEleven();
        ledAllTheWay();
        ledInOneHour();
        ledWhoeverTouches();
        dogsNumbers();
        dogsOverMidnight();
        keptTwo();
        backKeepsWhatIsShownAndTheText();
        countSmallestAndLargest();
        checks.end();
    }

    private static BlueByTouch nineOf(String item) {
        return Checks.house(item.repeat(9));
    }

    /** 0 to 3 touches: by none he has it already, and there is no first one then. */
    private static void asIfByNoTouch() {
        for (int shade = 0; shade <= 9; shade++) {
            for (int kind : new int[] {0, 1, 2, 5}) {
                BlueByTouch x = Checks.house("i" + kind + "," + shade + ";i5,0;");
                checks.due("he has it", x.asIf(0, shade, 0), 0);
                for (int k = 1; k <= 3; k++) {
                    checks.due("no touch " + k, x.asIf(0, shade, k), NONE);
                }
                checks.due("k of 4", x.asIf(0, shade, 4), BAD);
                checks.due("k of -1", x.asIf(0, shade, -1), BAD);
            }
        }
        BlueByTouch x = Checks.house("i0,9;i5,0;");
        x.powder(0);
        checks.due("under POWDER he has his SHADE", x.asIf(0, 9, 0), 0);
        checks.due("under POWDER he has not SHADE 0", x.asIf(0, 0, 0), NONE);
    }

    /** SHADE s (0 to 9): by one touch, of a HAND, a GLOVE and a DUKE. */
    private static void asIfEachShade() {
        String damp = "i4,1;i4,2;i4,3;i4,4;i4,5;i4,6;i4,7;i4,9;";
        int[] hand = {0, 2, 3, 4, 5, 6, 7, 0, 8, 0};
        BlueByTouch x = Checks.house("i0,0;" + damp);
        BlueByTouch glove = Checks.house("i1,0;" + damp);
        BlueByTouch duke = Checks.house("i5,0;" + damp);
        for (int s = 0; s <= 9; s++) {
            boolean none = s == 7 || s == 9;
            checks.due("a HAND to " + s, x.asIf(0, s, 0), none ? NONE : s == 0 ? 0 : 1);
            checks.due("a HAND to " + s + " by", x.asIf(0, s, 1), none || s == 0 ? NONE : hand[s]);
            checks.due("a HAND to " + s + " by, then", x.asIf(0, s, 2), NONE);
            checks.due("a HAND to " + s + " by, at last", x.asIf(0, s, 3), NONE);
            checks.due("a DUKE to " + s, duke.asIf(0, s, 0), s == 0 ? 0 : NONE);
            int way = s >= 1 && s <= 5 ? s + 2 : s == 7 ? 8 : NONE;
            checks.due("a GLOVE to " + s, glove.asIf(0, s, 0), s == 0 ? 0 : way == NONE ? NONE : 1);
            checks.due("a GLOVE to " + s + " by", glove.asIf(0, s, 1), way);
        }
        checks.due("s of -1", x.asIf(0, -1, 0), BAD);
        checks.due("s of 10", x.asIf(0, 10, 0), BAD);
        checks.due("s of 10, none", x.asIf(0, 10, 1), BAD);
        checks.due("a THING", x.asIf(1, 1, 0), BAD);
        checks.due("a THING that could not", x.asIf(1, 9, 0), BAD);
        checks.due("no ITEM", x.asIf(9, 0, 0), BAD);
        checks.due("no ITEM ahead", x.asIf(-1, 0, 0), BAD);
        checks.due("k of 4, none", x.asIf(0, 9, 4), BAD);
    }

    /** Of several rows the first (by the first ITEM touched). */
    private static void asIfTheFirstAndTheLastItem() {
        BlueByTouch x = nineOf("i5,0;");
        checks.due("a DUKE has it", x.asIf(8, 0, 0), 0);
        BlueByTouch first = Checks.house("i3,9;i4,9;i0,9;i5,9;i5,0;i3,9;i4,9;i0,9;i0,0;");
        checks.due("of eight", first.asIf(8, 8, 0), 1);
        checks.due("the first of eight", first.asIf(8, 8, 1), 0);
        BlueByTouch last = Checks.house("i0,0;" + "i3,8;".repeat(7) + "i4,9;");
        checks.due("the last of eight", last.asIf(0, 8, 1), 8);
        checks.due("the first behind himself", last.asIf(0, 7, 1), 1);
        BlueByTouch one = Checks.house("i0,4;");
        checks.due("nobody to touch", one.asIf(0, 3, 0), NONE);
        checks.due("nobody to touch, the first", one.asIf(0, 3, 1), NONE);
        checks.due("nobody to touch, but none needed", one.asIf(0, 4, 0), 0);
    }

    /** Till none of the PEOPLE is darker than s (0 to 9). */
    private static void soapEachShade() {
        BlueByTouch hand = Checks.house("i0,9;i3,9;i4,9;");
        BlueByTouch laundress = Checks.house("i2,9;");
        BlueByTouch none = Checks.house("i0,0;i1,0;i2,0;i5,0;");
        BlueByTouch all = nineOf("i5,9;");
        int[] byHand = {5, 4, 4, 3, 3, 2, 2, 1, 1, 0};
        int[] byLaundress = {3, 2, 2, 2, 2, 1, 1, 1, 1, 0};
        for (int s = 0; s <= 9; s++) {
            checks.due("a HAND of 9 to " + s, hand.soap(s), byHand[s]);
            checks.due("a LAUNDRESS of 9 to " + s, laundress.soap(s), byLaundress[s]);
            checks.due("nobody darker than " + s, none.soap(s), 0);
            checks.due("nine DUKES to " + s, all.soap(s), 9 * byHand[s]);
        }
        for (int bad : new int[] {-1, 10, Integer.MIN_VALUE, Integer.MAX_VALUE}) {
            checks.due("soap(" + bad + ")", none.soap(bad), BAD);
        }
        BlueByTouch exact = Checks.house("i0,2;i2,4;i1,1;");
        checks.due("one each", exact.soap(0), 3);
        exact.wash(0);
        exact.wash(1);
        checks.due("one more", exact.soap(0), 1);
        exact.wash(2);
        checks.due("no more", exact.soap(0), 0);
    }

    private static void alikeOfNine() {
        BlueByTouch x = nineOf("i0,1;");
        checks.due("twos of nine", x.alike(0), 36);
        checks.due("the first", x.alike(1), 1);
        x.powder(0);
        checks.due("twos of eight", x.alike(0), 28);
        checks.due("the first of eight", x.alike(1), 12);
        for (int i = 1; i < 7; i++) {
            x.powder(i);
        }
        checks.due("the last two", x.alike(0), 1);
        checks.due("the last two", x.alike(1), 78);
        x.powder(8);
        checks.due("none", x.alike(0), 0);
        checks.due("the first of none", x.alike(1), NONE);
        checks.due("alike(2), none", x.alike(2), BAD);
        checks.due("alike(-1), none", x.alike(-1), BAD);
    }

    /** The same SHADE, that is not 0, of PEOPLE. */
    private static void alikeOfNone() {
        checks.due("0 is not alike", nineOf("i0,0;").alike(0), 0);
        checks.due("the first of 0", nineOf("i0,0;").alike(1), NONE);
        BlueByTouch things = Checks.house("i3,5;i3,5;i4,5;i4,5;i0,5;");
        checks.due("THINGS are not alike", things.alike(0), 0);
        BlueByTouch kinds = Checks.house("i0,9;i1,9;i2,8;i5,9;");
        checks.due("of all KINDS of PEOPLE", kinds.alike(0), 3);
        kinds.powder(0);
        checks.due("without the one under POWDER", kinds.alike(1), 13);
        kinds.pass(8);
        checks.due("behind SUPPER", kinds.alike(1), 1);
    }

    /** SHOWN (6 at most). */
    private static void shownNoneToSix() {
        BlueByTouch x = nineOf("i0,0;");
        checks.due("forget none", x.forget(), 0);
        for (int n = 1; n <= 6; n++) {
            checks.due("show " + n, x.show(9 - n, 0), n);
            checks.due("SHOWN", x.count(6), n);
        }
        checks.due("one more", x.show(0, 0), FULL);
        checks.due("the same once more", x.show(3, 0), FULL);
        checks.due("no ITEM, full", x.show(9, 0), BAD);
        checks.due("no ITEM ahead, full", x.show(-1, 0), BAD);
        checks.due("no SHADE, full", x.show(0, 10), BAD);
        checks.due("no SHADE below, full", x.show(0, -1), BAD);
        checks.due("six are SHOWN", x.count(6), 6);
        checks.due("all six are so", x.touched(0), 36);
        checks.due("forget six", x.forget(), 6);
        checks.due("forget none again", x.forget(), 0);
        checks.due("one is SHOWN", x.show(0, 0), 1);
    }

    private static void shownEachShade() {
        BlueByTouch x = Checks.house("i0,0;i4,9;i3,4;");
        for (int s = 0; s <= 9; s++) {
            checks.due("show(0, " + s + ")", x.show(0, s), 1);
            checks.due("made so by a touch: " + s, x.touched(0), s == 0 || s == 8 || s == 3 ? 1 : 0);
            checks.due("the first: " + s, x.touched(1), s == 0 ? 12 : s == 8 ? 1 : s == 3 ? 2 : NONE);
            x.forget();
        }
        x.show(0, 8);
        x.show(2, 4);
        x.show(1, 9);
        checks.due("all that is SHOWN", x.touched(1), 1);
        x.show(2, 8);
        checks.due("one of them is not so", x.touched(1), NONE);
        x.powder(0);
        x.forget();
        x.show(0, 0);
        checks.due("a SHADE is SHOWN, not what is SEEN", x.touched(1), 12);
    }

    private static void touchedOfNine() {
        BlueByTouch x = nineOf("i0,0;");
        checks.due("nothing SHOWN: all twos", x.touched(0), 36);
        checks.due("nothing SHOWN: the first", x.touched(1), 1);
        x.show(8, 1);
        checks.due("none makes it 1", x.touched(0), 0);
        checks.due("the first of none", x.touched(1), NONE);
        checks.due("touched(2), none", x.touched(2), BAD);
        checks.due("touched(-1), none", x.touched(-1), BAD);
        BlueByTouch one = Checks.house("i0,0;");
        checks.due("of one ITEM", one.touched(0), 0);
        BlueByTouch two = Checks.house("i0,0;i3,0;");
        checks.due("of two ITEMS", two.touched(0), 1);
        checks.due("of two ITEMS", two.touched(1), 1);
    }

    private static void touchedTheLastTwo() {
        BlueByTouch x = Checks.house("i0,0;" + "i3,0;".repeat(6) + "i4,9;i3,0;");
        x.show(8, 8);
        checks.due("one", x.touched(0), 1);
        checks.due("the last two", x.touched(1), 78);
        x.touch(7, 0);
        checks.due("now another could, but lighter", x.touched(0), 1);
        x.forget();
        x.show(8, 7);
        checks.due("he could, once", x.touched(1), 8);
        checks.dueShades("behind asking", x, "800000090");
    }

    /** The first 6 touches told, of all, if there are fewer. */
    private static void ordersOfNoneToTen() {
        int[] many = {1, 1, 2, 6, 24, 120, 720, 720, 720, 720, 720};
        for (int touches = 0; touches <= 10; touches++) {
            BlueByTouch x = Checks.house("i0,0;i0,0;" + "t0,0,1;".repeat(touches));
            checks.due("orders of " + touches, x.order(0), many[touches]);
            checks.due("the told one of " + touches, x.order(1), 1);
            x.show(0, 1);
            checks.due("none of " + touches, x.order(0), 0);
            checks.due("not the told one of " + touches, x.order(1), 0);
            checks.due("order(2)", x.order(2), BAD);
            checks.due("order(-1)", x.order(-1), BAD);
        }
        String sixth = "i4,9;i0,0;i3,0;" + "t0,1,2;".repeat(5) + "t0,0,1;";
        BlueByTouch x = Checks.house(sixth);
        x.show(2, 0);
        checks.due("the sixth comes last", x.order(0), 120);
        checks.due("the sixth is told last", x.order(1), 1);
        BlueByTouch seven = Checks.house("i4,9;i0,0;i3,0;" + "t0,1,2;".repeat(6) + "t0,0,1;");
        seven.show(1, 0);
        checks.due("the seventh is none of them", seven.order(0), 720);
        checks.due("the seventh is none of the told", seven.order(1), 1);
    }

    /** From SHADES as LAID, nothing else being done: no HOURS, no washings, no fading. */
    private static void orderFromShadesAsLaid() {
        BlueByTouch x = Checks.house("i0,9;i0,0;i2,0;t11,1,2;t5,0,1;w5,1;w11,2;");
        x.show(0, 9);
        x.show(1, 8);
        x.show(2, 7);
        checks.due("one order", x.order(0), 1);
        checks.due("not as told, though so by the hours", x.order(1), 0);
        x.pass(24);
        x.touch(0, 2);
        x.wash(0);
        x.powder(1);
        checks.due("one order still", x.order(0), 1);
        checks.due("not as told still", x.order(1), 0);
        x.forget();
        x.show(2, 0);
        checks.due("the other order", x.order(0), 1);
        checks.due("as told", x.order(1), 1);
    }

    /** Each order begins anew, whether who touches gets the dye or who is touched. */
    private static void orderWhoeverTouches() {
        BlueByTouch x = Checks.house("i0,0;i0,0;i4,9;t0,1,2;t0,0,1;");
        BlueByTouch y = Checks.house("i0,0;i0,0;i4,9;t0,2,1;t0,1,0;");
        for (int s = 0; s <= 9; s++) {
            x.show(0, s);
            y.show(0, s);
            int want = s == 0 || s == 7 ? 1 : 0;
            checks.due("who touches gets " + s, x.order(0), want);
            checks.due("who is touched gets " + s, y.order(0), want);
            checks.due("who touches gets " + s + ", as told", x.order(1), s == 7 ? 1 : 0);
            checks.due("who is touched gets " + s + ", as told", y.order(1), s == 7 ? 1 : 0);
            x.forget();
            y.forget();
        }
    }

    private static void boxAtOnce() {
        BlueByTouch x = nineOf("i0,5;");
        checks.due("nothing SHOWN: all nine", x.box(), 511);
        x.show(8, 9);
        checks.due("the last", x.box(), 256);
        x.forget();
        x.show(0, 9);
        checks.due("the first", x.box(), 1);
        x.show(8, 0);
        checks.due("the first, and not the last", x.box(), 1);
        x.forget();
        x.show(4, 5);
        checks.due("as LAID does not count", x.box(), 0);
        x.forget();
        x.show(0, 0);
        checks.due("all but the first", x.box(), 510);
        checks.dueShades("behind box", x, "555555555");
        BlueByTouch duke = Checks.house("i5,0;i0,0;t0,0,1;");
        duke.pass(1);
        duke.show(1, 8);
        checks.due("a DUKE gives 8, wherever the box was; the HAND was 9", duke.box(), 1);
    }

    /** Behind as many HOURS as have gone by (48 at most). */
    private static void boxBehindFortyEightAtMost() {
        // The HAND gets 8 in hour 0 of each day and is 4 by its end: 8 again in the 49th HOUR.
        BlueByTouch x = Checks.house("i4,0;i0,0;t0,0,1;");
        x.show(1, 8);
        checks.due("behind none", x.box(), 0);
        x.pass(1);
        checks.due("behind 1", x.box(), 1);
        x.pass(23);
        checks.due("behind 24", x.box(), 0);
        x.forget();
        x.show(1, 4);
        checks.due("behind 24, 4", x.box(), 1);
        x.pass(23);
        checks.due("behind 47, the HAND: it got 7 of what it gave", x.box(), 2);
        x.pass(1);
        checks.due("behind 48", x.box(), 1);
        x.pass(1);
        checks.due("49 are as 48", x.box(), 1);
        x.forget();
        x.show(1, 8);
        checks.due("49 are not 49", x.box(), 0);
        x.undo();
        x.undo();
        x.forget();
        x.show(1, 5);
        checks.due("behind 47 again", x.box(), 1);
        x.pass(24);
        x.pass(24);
        x.pass(24);
        x.forget();
        x.show(1, 4);
        checks.due("119 are as 48", x.box(), 1);
    }

    /** Hours 0 to h (0 to 11), from itself, too. */
    private static void fromHourNoneToEleven() {
        BlueByTouch x = Checks.house("i4,0;".repeat(8) + "i0,0;" + "t0,7,8;t1,6,7;t3,5,6;t5,4,5;t7,3,4;t9,2,3;t10,1,2;t11,0,1;");
        for (int h = 0; h <= 11; h++) {
            checks.due("to the last till " + h, x.from(8, h), 256 + 128);
            checks.due("to the first till " + h, x.from(0, h), h == 11 ? 511 : 1);
        }
        checks.due("to 4 till hour 4", x.from(4, 4), 16);
        checks.due("to 4 till hour 5", x.from(4, 5), 16 + 32 + 64 + 128 + 256);
        checks.due("to 4 till hour 7", x.from(4, 7), 8 + 16 + 32 + 64 + 128 + 256);
        int[][] bad = {{9, 0}, {-1, 0}, {0, -1}, {0, 12}, {9, 12}, {Integer.MAX_VALUE, 0}, {0, Integer.MIN_VALUE}};
        for (int[] row : bad) {
            checks.due("from(" + row[0] + ", " + row[1] + ")", x.from(row[0], row[1]), BAD);
        }
        BlueByTouch late = Checks.house("i0,0;i0,0;i0,0;t11,0,1;t0,1,2;");
        checks.due("hour 0 of the next day is not told", late.from(2, 11), 2 + 4);
        checks.due("by hour 11", late.from(0, 11), 1 + 2 + 4);
        checks.due("by hour 0 alone", late.from(1, 0), 2 + 4);
        late.pass(12);
        checks.due("whatever the hour", late.from(2, 11), 2 + 4);
    }

    /** LED by 8 touches, the fewest of a chain of all nine. */
    private static void ledAllTheWay() {
        BlueByTouch x = Checks.house("i4,0;".repeat(8) + "i0,0;" + "t0,7,8;t1,6,7;t3,5,6;t5,4,5;t7,3,4;t9,2,3;t10,1,2;t11,0,1;");
        checks.due("all the way", x.led(8, 0, 11), 8);
        checks.due("all but the last", x.led(8, 0, 10), NONE);
        checks.due("against the hours", x.led(0, 8, 11), NONE);
        checks.due("against the hours, but one", x.led(7, 8, 11), 1);
        for (int i = 0; i < 9; i++) {
            checks.due("to itself", x.led(i, i, 0), 0);
            checks.due("from the last to " + i, x.led(8, i, 11), 8 - i);
        }
        int[][] bad = {{9, 0, 0}, {0, 9, 0}, {9, 9, 0}, {-1, 0, 0}, {0, -1, 0}, {-1, -1, 0}, {0, 0, -1}, {0, 0, 12}, {0, 8, 12}};
        for (int[] row : bad) {
            checks.due("led(" + row[0] + ", " + row[1] + ", " + row[2] + ")", x.led(row[0], row[1], row[2]), BAD);
        }
        checks.due("no touch told", Checks.house("i0,0;i0,0;").led(0, 1, 11), NONE);
        checks.due("no touch told, to itself", Checks.house("i0,0;i0,0;").led(1, 1, 11), 0);
    }

    /** As told within an hour; each behind the one ahead of it. */
    private static void ledInOneHour() {
        BlueByTouch x = Checks.house("i0,0;i0,0;i0,0;i0,0;t11,1,2;t11,0,1;t11,2,3;t11,1,2;t11,2,3;");
        checks.due("0 to 1", x.led(0, 1, 11), 1);
        checks.due("0 to 2", x.led(0, 2, 11), 2);
        checks.due("0 to 3", x.led(0, 3, 11), 3);
        checks.due("1 to 3", x.led(1, 3, 11), 2);
        checks.due("3 to 1", x.led(3, 1, 11), 2);
        checks.due("3 to 0", x.led(3, 0, 11), NONE);
        checks.due("2 to 0", x.led(2, 0, 11), 2);
        checks.due("none till hour 10", x.led(0, 1, 10), NONE);
        BlueByTouch told = Checks.house("i0,0;i0,0;i0,0;t3,1,2;t2,0,1;");
        checks.due("by hours, not as told", told.led(0, 2, 3), 2);
        checks.due("by hours, not yet", told.led(0, 2, 2), NONE);
    }

    /** The fewest, whether who touches has it or who is touched; two that have it bring each other nothing. */
    private static void ledWhoeverTouches() {
        String three = "i0,0;i0,0;i0,0;t0,0,1;t1,0,2;";
        for (String last : new String[] {"t2,1,2;", "t2,2,1;"}) {
            BlueByTouch x = Checks.house(three + last);
            checks.due("1 had it by one", x.led(0, 1, 2), 1);
            checks.due("2 had it by one", x.led(0, 2, 2), 1);
            checks.due("1 to 2 by one", x.led(1, 2, 2), 1);
            checks.due("2 to 1 by one", x.led(2, 1, 2), 1);
        }
        String four = "i0,0;i0,0;i0,0;i0,0;t0,0,1;t1,1,2;t2,2,3;";
        for (String last : new String[] {"t3,0,3;", "t3,3,0;"}) {
            BlueByTouch x = Checks.house(four + last);
            checks.due("by three", x.led(0, 3, 2), 3);
            checks.due("by one", x.led(0, 3, 3), 1);
            checks.due("0 itself", x.led(0, 0, 3), 0);
        }
        for (String last : new String[] {"t3,1,3;", "t3,3,1;"}) {
            BlueByTouch x = Checks.house(four + last);
            checks.due("by three, then two", x.led(0, 3, 3), 2);
            checks.due("1 by one", x.led(0, 1, 3), 1);
        }
    }

    /** z (0 to 9999), n (1 to 48). */
    private static void dogsNumbers() {
        BlueByTouch x = Checks.house("i0,9;i0,0;i4,0;");
        for (int z : new int[] {0, 9999}) {
            checks.due("dogs(" + z + ", 1, 1)", x.dogs(z, 1, 1), 9);
            checks.due("dogs(" + z + ", 48, 2)", x.dogs(z, 48, 2), BAD);
            checks.due("dogs(" + z + ", 48, -1)", x.dogs(z, 48, -1), BAD);
            checks.due("dogs(" + z + ", 0, 0)", x.dogs(z, 0, 0), BAD);
            checks.due("dogs(" + z + ", 49, 0)", x.dogs(z, 49, 0), BAD);
        }
        checks.due("dogs(-1, 1, 0)", x.dogs(-1, 1, 0), BAD);
        checks.due("dogs(10000, 1, 0)", x.dogs(10000, 1, 0), BAD);
        // z 9999, k 0: x is 79182082, x times x modulo 65521 is 51303, DRAW 6412: 1 of 3 and, by 8 801, 0 of 3.
        checks.due("z 9999: 1 touches 0", x.dogs(9999, 1, 0), 2);
        // z 1, k 0: x is 7920, x times x modulo 65521 is 22803, DRAW 2850: 0 of 3 and, by 8 356, 2 of 3.
        checks.due("z 1: 0 touches 2", x.dogs(1, 1, 0), 2);
        checks.due("none has a SHADE", nineOf("i0,0;").dogs(77, 48, 0), 0);
        checks.due("none is dark", nineOf("i0,0;").dogs(77, 48, 1), 0);
        checks.due("what is DAMP is none of the PEOPLE", Checks.house("i0,0;i4,9;").dogs(0, 1, 1), 0);
        checks.due("all keep it", Checks.house("i0,0;" + "i4,9;".repeat(8)).dogs(0, 1, 0), 8);
    }

    private static void dogsOverMidnight() {
        BlueByTouch x = Checks.house("i0,9;i4,0;t0,0,1;");
        x.pass(11);
        x.undo();
        checks.due("undone, it is hour 0", x.dogs(0, 1, 0), 2);
        BlueByTouch late = Checks.house("i0,9;i4,0;i0,0;t0,1,2;");
        late.pass(11);
        checks.due("z 0, k 0 in hour 11: no touch", late.dogs(0, 1, 0), 1);
        // k 1: DRAW 648: 0 of 3 and 81 modulo 3, 0, too; so the told touch of hour 0 brings nothing.
        checks.due("the darkest in hour 11", late.dogs(0, 1, 1), 5);
        late.touch(0, 1);
        checks.due("behind hour 11", late.dogs(0, 1, 0), 2);
        checks.due("the told touch of hour 0", late.dogs(0, 2, 0), 3);
        checks.due("the hour stays", late.count(3), 11);
        checks.dueShades("all stays", late, "650");
    }

    /** KEPT: 2 at most. */
    private static void keptTwo() {
        BlueByTouch x = Checks.house("i0,9;i0,0;");
        checks.due("none is KEPT", x.back(), NO);
        checks.due("the first", x.keep(), 1);
        x.wash(0);
        checks.due("the second", x.keep(), 2);
        x.wash(0);
        checks.due("the third", x.keep(), FULL);
        checks.due("the third again", x.keep(), FULL);
        checks.due("what can be UNDONE stays", x.count(7), 2);
        checks.due("back to the second", x.back(), 1);
        checks.dueShades("the second", x, "70");
        checks.due("nothing can be UNDONE", x.undo(), NO);
        checks.due("one more", x.keep(), 2);
        checks.due("back to it", x.back(), 1);
        checks.dueShades("as it was", x, "70");
        checks.due("back to the first", x.back(), 0);
        checks.dueShades("the first", x, "90");
        checks.due("none is KEPT any more", x.back(), NO);
        checks.due("the first again", x.keep(), 1);
    }

    private static void backKeepsWhatIsShownAndTheText() {
        BlueByTouch x = Checks.house("i0,9;i0,0;s3;");
        x.pass(11);
        x.powder(1);
        x.keep();
        x.pass(5);
        for (int n = 0; n < 6; n++) {
            x.show(0, 6);
        }
        x.write('i');
        checks.due("POWDER was off", x.item(1, 4), 0);
        checks.due("back", x.back(), 0);
        checks.due("hour 11", x.count(3), 11);
        checks.due("HOURS gone by", x.count(4), 11);
        checks.due("POWDER is on", x.item(1, 4), 1);
        checks.due("POWDER, again", x.powder(1), NO);
        checks.due("six are SHOWN", x.count(6), 6);
        checks.due("letters", x.count(9), 14);
        checks.due("fault", x.fault(), 13);
        checks.due("nothing can be UNDONE", x.count(7), 0);
        checks.due("SUPPER's hour", x.count(10), 3);
        checks.due("to hour 0", x.pass(1), 0);
        checks.due("UNDONE again", x.undo(), 0);
        checks.due("hour 11 again", x.count(3), 11);
    }

    private static void countSmallestAndLargest() {
        BlueByTouch x = Checks.house("i0,9;i1,9;i2,9;i5,9;i0,9;i0,9;i0,9;i0,9;i0,9;" + "t0,0,1;".repeat(10) + "s11;");
        x.pass(24);
        x.pass(11);
        for (int n = 0; n < 7; n++) {
            x.touch(0, 1);
            x.show(0, 0);
        }
        x.keep();
        x.keep();
        x.keep();
        Checks.write(x, "s7;".repeat(40));
        int[] most = {9, 9, 10, 11, 35, 0, 6, 8, 2, 200, 11};
        for (int what = 0; what < most.length; what++) {
            checks.due("most: count(" + what + ")", x.count(what), most[what]);
        }
        checks.due("all nine have a SHADE", nineOf("i0,1;").count(5), 9);
        checks.due("none has a SHADE", nineOf("i0,0;").count(5), 0);
        checks.due("SUPPER in hour 0", Checks.house("i0,0;s0;").count(10), 0);
        for (int bad : new int[] {-1, 11, Integer.MIN_VALUE, Integer.MAX_VALUE}) {
            checks.due("count(" + bad + ")", x.count(bad), BAD);
        }
    }
}
