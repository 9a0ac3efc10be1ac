/** The boundary cases that the document names for promises 8 to 13, a check or more for each sentence. */
public final class HourEdgesTest {
    private static final int BAD = -1, NO = -2;
    private static final Checks checks = new Checks();

    public static void main(String[] args) {
        hourElevenAndHourZeroBehindIt();
        oneHourAndTwentyFour();
        touchesOfAnHourFirstToTenth();
        washingsOfAnHour();
        fadingInItsHoursAlone();
        noShadeStaysNone();
        whatIsDampKeepsIt();
        givenNothingAtLeast();
        aGloveBothWays();
        aDukeGivesEightAlways();
        aDukeStays();
        touchesOfTheFirstAndTheLast();
        washedToNothingAtLeast();
        powderOnAll();
        powderIsOffByAToldTouch();
        powderTillTheNextSupper();
        undoneAreTheLastEight();
        aDayUndone();
        undoneBehindUndone();
        whatIsNoneOfTheFourIsNotUndone();
        behindNoneAndFortyEight();
        behindSupper();
        checks.end();
    }

    /** Hours 0 to 11, then 0 again the next day. */
    private static void hourElevenAndHourZeroBehindIt() {
        String text = "i0,9;i0,0;i0,0;t11,0,1;t0,1,2;";
        BlueByTouch x = Checks.house(text);
        checks.due("hour 0 is the first", x.count(3), 0);
        checks.due("to hour 11", x.pass(11), 11);
        checks.dueShades("ahead of hour 11", x, "600");
        checks.due("behind hour 11", x.pass(1), 0);
        checks.dueShades("behind hour 11", x, "540");
        checks.due("behind hour 0 of the next day", x.pass(1), 1);
        checks.dueShades("behind hour 0 of the next day", x, "543");
        checks.due("HOURS gone by", x.count(4), 13);
        BlueByTouch over = Checks.house(text);
        over.pass(11);
        checks.due("both at one time", over.pass(2), 1);
        checks.dueShades("both at one time", over, "543");
        checks.due("undo both", over.undo(), 1);
        checks.due("hour 11 again", over.count(3), 11);
        checks.dueShades("hour 11 again", over, "600");
        checks.due("behind 2, told", over.behind(2, 2, 0), 3);
        checks.due("to hour 10 of the next day", over.pass(11), 10);
        checks.due("to hour 11 of the next day", over.pass(1), 11);
    }

    /** n HOURS (1 to 24): which hour it is. */
    private static void oneHourAndTwentyFour() {
        for (int n = 1; n <= 24; n++) {
            BlueByTouch x = Checks.house("i0,9;");
            checks.due("pass(" + n + ")", x.pass(n), n % 12);
            checks.due("HOURS gone by", x.count(4), n);
            checks.due("undo", x.undo(), 0);
            checks.due("none gone by", x.count(4) + x.count(3), 0);
            x.pass(11);
            checks.due("pass(" + n + ") from hour 11", x.pass(n), (11 + n) % 12);
        }
        BlueByTouch x = Checks.house("i3,9;i0,9;");
        for (int day = 1; day <= 10; day++) {
            checks.due("two days", x.pass(24), 0);
            checks.due("HOURS gone by", x.count(4), 24 * day);
        }
        checks.due("pass(0)", x.pass(0), BAD);
        checks.due("pass(25)", x.pass(25), BAD);
        checks.due("HOURS gone by stay", x.count(4), 240);
    }

    /** 1 touches told for it, 0 first. */
    private static void touchesOfAnHourFirstToTenth() {
        String chain = "t4,0,1;t4,1,2;t4,2,3;t4,3,4;t4,4,5;t4,5,6;t4,6,7;t4,7,8;";
        String items = "i4,9;" + "i4,0;".repeat(7) + "i0,0;";
        BlueByTouch x = Checks.house(items + chain);
        x.pass(4);
        checks.dueShades("ahead of it", x, "900000000");
        x.pass(1);
        checks.dueShades("one behind the other", x, "987654321");
        BlueByTouch back = Checks.house("i4,9;i4,0;i0,0;" + "t4,1,2;".repeat(8) + "t4,0,1;t4,1,2;");
        back.pass(5);
        checks.dueShades("the tenth counts", back, "987");
        BlueByTouch nine = Checks.house("i4,9;i4,0;i0,0;" + "t4,1,2;".repeat(9) + "t4,0,1;");
        nine.pass(5);
        checks.dueShades("the tenth comes last", nine, "980");
        nine.pass(12);
        checks.dueShades("the next day", nine, "987");
    }

    /** 2 washings told for it: behind its touches, ahead of the fading. */
    private static void washingsOfAnHour() {
        BlueByTouch x = Checks.house("i0,9;i2,9;" + "w0,0;".repeat(3) + "w0,1;");
        x.pass(1);
        checks.dueShades("three and one", x, "35");
        BlueByTouch four = Checks.house("i0,9;i2,9;" + "w11,0;".repeat(4));
        four.pass(11);
        checks.dueShades("ahead of hour 11", four, "66");
        four.pass(1);
        checks.dueShades("four, and 0 at least", four, "05");
        BlueByTouch touched = Checks.house("i0,0;i3,3;w5,0;t5,0,1;");
        touched.pass(6);
        checks.dueShades("touched 2, washed 0, faded 0; the CUP by 1", touched, "02");
        BlueByTouch powdered = Checks.house("i0,9;w0,0;");
        powdered.powder(0);
        powdered.pass(1);
        checks.due("POWDER stays by a washing that is told", powdered.item(0, 4), 1);
        checks.due("the SHADE under it", powdered.item(0, 1), 7);
    }

    /** PEOPLE in hours 2, 5, 8, 11; a CUP in hours 5, 11. */
    private static void fadingInItsHoursAlone() {
        for (int kind = 0; kind <= 5; kind++) {
            BlueByTouch x = Checks.house("i0,0;i" + kind + ",9;");
            int due = 9;
            for (int gone = 0; gone < 24; gone++) {
                int hour = gone % 12;
                boolean lighter = kind < 3 || kind == 5 ? hour % 3 == 2 : kind == 3 && (hour == 5 || hour == 11);
                x.pass(1);
                due -= lighter ? 1 : 0;
                checks.due("KIND " + kind + " behind hour " + hour, x.item(1, 1), due);
            }
        }
    }

    private static void noShadeStaysNone() {
        BlueByTouch x = Checks.house("i0,0;i1,0;i2,0;i3,0;i4,0;i5,0;i0,1;i3,1;i5,1;");
        x.pass(2);
        checks.dueShades("ahead of hour 2", x, "000000111");
        x.pass(1);
        checks.dueShades("behind hour 2", x, "000000010");
        x.pass(3);
        checks.dueShades("behind hour 5", x, "000000000");
        x.pass(24);
        checks.dueShades("two days later", x, "000000000");
        checks.due("ITEMS that have a SHADE", x.count(5), 0);
    }

    private static void whatIsDampKeepsIt() {
        BlueByTouch x = Checks.house("i0,9;i4,9;i4,1;i4,0;");
        x.pass(24);
        checks.dueShades("two days later", x, "1910");
        checks.due("behind 48 more", x.behind(48, 1, 0), 9);
        checks.due("it takes", x.touch(1, 3), 8);
        x.pass(24);
        checks.dueShades("what it took it keeps", x, "0918");
    }

    /** 1 less than its own (a GLOVE 2 less; 0 at least). */
    private static void givenNothingAtLeast() {
        int[] hand = {0, 0, 1, 2, 3, 4, 5, 6, 7, 8};
        int[] glove = {0, 0, 0, 1, 2, 3, 4, 5, 6, 7};
        for (int shade = 0; shade <= 9; shade++) {
            for (int kind = 0; kind <= 4; kind++) {
                int given = kind == 1 ? glove[shade] : hand[shade];
                String by = " by KIND " + kind + " of " + shade;
                BlueByTouch x = Checks.house("i0,0;i3,0;i4,0;i1,0;i" + kind + "," + shade + ";");
                checks.due("a HAND" + by, x.touch(0, 4), given);
                checks.due("a CUP" + by, x.touch(4, 1), given);
                checks.due("what is DAMP" + by, x.touch(4, 2), given);
                checks.due("a GLOVE" + by, x.touch(3, 4), Math.max(0, given - 1));
                checks.due("he keeps his" + by, x.item(4, 1), shade);
            }
        }
        BlueByTouch same = Checks.house("i0,8;i0,9;i0,7;");
        checks.due("who is as dark gets nothing", same.touch(0, 1), 0);
        checks.due("who is 1 lighter than that gets 1", same.touch(1, 2), 1);
        checks.dueShades("then", same, "898");
    }

    /** A GLOVE gives 2 less, and is as dark as 1 less than what is given. */
    private static void aGloveBothWays() {
        BlueByTouch x = Checks.house("i1,0;i1,9;i0,0;i0,1;i0,2;i0,3;");
        checks.due("by a HAND of 0", x.touch(0, 2), 0);
        checks.due("by a HAND of 1", x.touch(0, 3), 0);
        checks.due("by a HAND of 2", x.touch(0, 4), 0);
        checks.due("by a HAND of 3", x.touch(0, 5), 1);
        checks.due("by a GLOVE of 9", x.touch(0, 1), 5);
        checks.dueShades("then", x, "690123");
        checks.due("a HAND of 0 by a GLOVE of 6", x.touch(2, 0), 4);
        BlueByTouch y = Checks.house("i1,6;i0,8;i5,0;i1,7;");
        checks.due("given 7 a GLOVE of 6 stays, HAND 8 too", y.touch(0, 1), 0);
        checks.due("given 8 a GLOVE of 6 is 7", y.touch(0, 2), 1);
        checks.due("given 8 a GLOVE of 7 stays", y.touch(2, 3), 0);
    }

    private static void aDukeGivesEightAlways() {
        for (int shade = 0; shade <= 9; shade++) {
            BlueByTouch x = Checks.house("i5," + shade + ";i0,0;i1,0;i2,0;i3,0;i4,0;i0,7;i0,8;i0,9;");
            int[] want = {0, 8, 7, 8, 8, 8, 1, 0, 0};
            for (int i = 1; i < 9; i++) {
                checks.due("a DUKE of " + shade + " to " + i, i % 2 == 0 ? x.touch(0, i) : x.touch(i, 0), want[i]);
            }
            checks.dueShades("then", x, shade + "87888889");
        }
        BlueByTouch x = Checks.house("i5,9;i0,0;");
        x.powder(0);
        checks.due("under POWDER, too", x.touch(0, 1), 8);
        BlueByTouch washed = Checks.house("i5,1;i0,0;");
        checks.due("a DUKE is washed", washed.wash(0), 0);
        checks.due("washed, too", washed.touch(1, 0), 8);
    }

    /** A DUKE stays as it is, but for washing and the hours. */
    private static void aDukeStays() {
        BlueByTouch x = Checks.house("i5,0;i0,9;i4,9;i5,9;");
        checks.due("by a HAND of 9", x.touch(0, 1), 0);
        checks.due("by what is DAMP", x.touch(2, 0), 0);
        checks.due("by a DUKE of 9", x.touch(0, 3), 0);
        checks.dueShades("then", x, "0999");
        x.pass(3);
        checks.dueShades("a DUKE, too, is lighter behind hour 2", x, "0898");
        checks.due("a DUKE washes as a HAND", x.wash(3), 6);
    }

    private static void touchesOfTheFirstAndTheLast() {
        BlueByTouch x = Checks.house("i0,9;" + "i3,0;".repeat(7) + "i0,0;");
        checks.due("first and last", x.touch(0, 8), 8);
        checks.due("last and one ahead", x.touch(8, 7), 7);
        checks.due("last and behind it", x.touch(8, 9), BAD);
        checks.due("behind it and last", x.touch(9, 8), BAD);
        checks.due("ahead of the first", x.touch(-1, 0), BAD);
        checks.due("first and ahead of it", x.touch(0, -1), BAD);
        checks.due("first and itself", x.touch(0, 0), BAD);
        checks.due("last and itself", x.touch(8, 8), BAD);
        checks.due("no ITEM and itself", x.touch(9, 9), BAD);
        checks.dueShades("then", x, "900000078");
        checks.due("two can be UNDONE", x.count(7), 2);
    }

    /** 2 SHADES lighter (0 at least); a LAUNDRESS 4. */
    private static void washedToNothingAtLeast() {
        for (int shade = 0; shade <= 9; shade++) {
            BlueByTouch x = Checks.house("i0,S;i1,S;i2,S;i5,S;i3,S;i4,S;".replace("S", "" + shade));
            for (int i = 0; i < 4; i++) {
                checks.due("washing " + i + " of " + shade, x.wash(i), Math.max(0, shade - (i == 2 ? 4 : 2)));
            }
            checks.due("a CUP", x.wash(4), BAD);
            checks.due("what is DAMP", x.wash(5), BAD);
            checks.due("behind the last", x.wash(6), BAD);
            checks.due("ahead of the first", x.wash(-1), BAD);
            checks.due("THINGS stay", x.item(4, 1) + x.item(5, 1), 2 * shade);
            checks.due("four can be UNDONE", x.count(7), 4);
        }
    }

    private static void powderOnAll() {
        BlueByTouch x = Checks.house("i0,9;i1,8;i2,7;i5,6;i0,0;i1,4;i2,3;i5,2;i0,1;");
        for (int i = 0; i < 9; i++) {
            checks.due("SEEN ahead", x.item(i, 2), x.item(i, 1));
            checks.due("powder(" + i + ")", x.powder(i), i + 1);
            checks.due("SEEN as 0", x.item(i, 2), 0);
        }
        for (int i = 0; i < 9; i++) {
            checks.due("powder(" + i + ") again", x.powder(i), NO);
        }
        checks.due("none is ALIKE", x.alike(0), 0);
        checks.dueShades("under POWDER", x, "987604321");
        checks.due("eight can be UNDONE", x.count(7), 8);
        for (int left = 7; left >= 0; left--) {
            checks.due("undo", x.undo(), left);
            checks.due("off again", x.item(left + 1, 4), 0);
        }
        checks.due("the first one can't be UNDONE", x.undo(), NO);
        checks.due("it is on him still", x.item(0, 4), 1);
        checks.due("the second", x.powder(1), 2);
    }

    /** A touch of his (he touches, or is touched) takes it off. */
    private static void powderIsOffByAToldTouch() {
        BlueByTouch x = Checks.house("i0,0;i0,0;i0,0;i3,0;t11,0,1;t0,3,2;");
        x.pass(11);
        x.powder(0);
        x.powder(1);
        x.powder(2);
        checks.due("behind 1: who touches", x.behind(1, 0, 0) + x.item(0, 4), 1);
        x.pass(1);
        checks.due("off who touches", x.item(0, 4), 0);
        checks.due("off who is touched", x.item(1, 4), 0);
        checks.due("on the third", x.item(2, 4), 1);
        checks.due("again", x.powder(1), 2);
        x.pass(1);
        checks.due("off whom a THING touches", x.item(2, 4), 0);
        checks.due("one is under it", x.powder(0), 2);
    }

    /** Till the next SUPPER is over: at the end of its hour. */
    private static void powderTillTheNextSupper() {
        BlueByTouch x = Checks.house("i0,9;i0,9;s7;");
        x.pass(7);
        x.powder(0);
        checks.due("in the hour of SUPPER", x.item(0, 2), 0);
        x.pass(1);
        checks.due("SUPPER is over", x.item(0, 4), 0);
        checks.due("behind SUPPER again", x.powder(0), 1);
        checks.due("and another", x.powder(1), 2);
        x.pass(11);
        checks.due("in the hour of the next SUPPER", x.item(0, 4) + x.item(1, 4), 2);
        checks.due("NO, in it", x.powder(0), NO);
        x.pass(1);
        checks.due("the next SUPPER is over", x.item(0, 4) + x.item(1, 4), 0);
        checks.due("undo it", x.undo(), 6);
        checks.due("on them again", x.item(0, 4) + x.item(1, 4), 2);
        BlueByTouch touched = Checks.house("i0,0;i4,9;s0;t0,0,1;");
        touched.powder(0);
        touched.pass(1);
        checks.due("SUPPER in hour 0", touched.item(0, 2), 8);
    }

    /** The last 8 can be; all that go by at one time are one. */
    private static void undoneAreTheLastEight() {
        BlueByTouch x = Checks.house("i0,9;i2,9;i3,0;s7;");
        x.pass(3);
        x.touch(0, 2);
        x.wash(1);
        x.powder(0);
        x.pass(1);
        x.powder(1);
        x.wash(0);
        x.pass(2);
        checks.due("eight", x.count(7), 8);
        checks.dueShades("behind eight", x, "536");
        x.touch(0, 1);
        checks.due("eight of nine", x.count(7), 8);
        checks.dueShades("behind nine", x, "546");
        String[] shades = {"536", "647", "847", "847", "847", "847", "887", "880"};
        int[] powdered = {2, 2, 2, 1, 1, 0, 0, 0};
        int[] gone = {6, 4, 4, 4, 3, 3, 3, 3};
        for (int u = 0; u < 8; u++) {
            checks.due("undo", x.undo(), 7 - u);
            checks.dueShades("behind undo " + u, x, shades[u]);
            checks.due("POWDER behind undo " + u, x.item(0, 4) + x.item(1, 4), powdered[u]);
            checks.due("HOURS gone by", x.count(4), gone[u]);
        }
        checks.due("the first of nine can't be UNDONE", x.undo(), NO);
        checks.dueShades("it stays", x, "880");
    }

    private static void aDayUndone() {
        BlueByTouch x = Checks.house("i0,9;i3,9;");
        x.pass(24);
        checks.dueShades("behind two days", x, "15");
        checks.due("they are one", x.count(7), 1);
        checks.due("undo them", x.undo(), 0);
        checks.dueShades("at first", x, "99");
        checks.due("no more", x.undo(), NO);
    }

    private static void undoneBehindUndone() {
        BlueByTouch x = Checks.house("i4,0;i0,0;");
        for (int n = 1; n <= 8; n++) {
            x.pass(n);
        }
        checks.due("undo the eighth", x.undo(), 7);
        checks.due("undo the seventh", x.undo(), 6);
        x.pass(10);
        checks.due("another", x.count(7), 7);
        x.pass(11);
        checks.due("and another", x.count(7), 8);
        x.pass(12);
        checks.due("and one too many", x.count(7), 8);
        int[] gone = {42, 31, 21, 15, 10, 6, 3, 1};
        for (int u = 0; u < 8; u++) {
            checks.due("undo", x.undo(), 7 - u);
            checks.due("HOURS gone by", x.count(4), gone[u]);
            checks.due("the hour", x.count(3), gone[u] % 12);
        }
        checks.due("no more", x.undo(), NO);
        checks.due("the first one stays", x.count(4), 1);
    }

    private static void whatIsNoneOfTheFourIsNotUndone() {
        BlueByTouch x = Checks.house("i0,9;i0,0;");
        x.show(0, 9);
        x.forget();
        x.show(1, 1);
        x.write('i');
        x.keep();
        x.behind(48, 0, 0);
        x.asIf(1, 8, 0);
        x.touched(0);
        x.order(0);
        x.box();
        x.dogs(1, 48, 0);
        x.fault();
        checks.due("nothing can be UNDONE", x.count(7), 0);
        checks.due("undo", x.undo(), NO);
        checks.due("what is SHOWN stays", x.count(6), 1);
        checks.due("what is KEPT stays", x.count(8), 1);
        x.touch(0, 1);
        x.keep();
        x.undo();
        checks.due("what is KEPT stays by undo", x.count(8), 2);
        x.back();
        checks.dueShades("as KEPT behind the touch", x, "98");
    }

    /** BEHIND n HOURS (0 to 48). */
    private static void behindNoneAndFortyEight() {
        BlueByTouch x = Checks.house("i0,9;i3,9;i4,9;i5,9;i0,0;t11,2,4;");
        x.powder(0);
        int[] now = {9, 9, 9, 9, 0};
        int[] later = {0, 1, 9, 0, 7};
        for (int i = 0; i < 5; i++) {
            checks.due("behind(0, " + i + ", 0)", x.behind(0, i, 0), now[i]);
            checks.due("behind(0, " + i + ", 1)", x.behind(0, i, 1), i == 0 ? 0 : now[i]);
            checks.due("behind(48, " + i + ", 0)", x.behind(48, i, 0), later[i]);
            checks.due("behind(48, " + i + ", 1)", x.behind(48, i, 1), later[i]);
        }
        checks.due("ahead of hour 11", x.behind(11, 4, 0), 0);
        checks.due("behind hour 11", x.behind(12, 4, 0), 7);
        checks.due("behind hour 2 of the next day", x.behind(15, 4, 0), 6);
        checks.due("behind(-1, 0, 0)", x.behind(-1, 0, 0), BAD);
        checks.due("behind(49, 0, 0)", x.behind(49, 0, 0), BAD);
        checks.due("behind(0, 5, 0)", x.behind(0, 5, 0), BAD);
        checks.due("behind(0, 0, 2)", x.behind(0, 0, 2), BAD);
        checks.due("behind(0, 0, -1)", x.behind(0, 0, -1), BAD);
        x.pass(11);
        checks.due("from hour 11 on", x.behind(1, 4, 0), 7);
        checks.due("none from hour 11 on", x.behind(0, 4, 0), 0);
        checks.due("48 from hour 11 on", x.behind(48, 4, 0), 4);
    }

    private static void behindSupper() {
        BlueByTouch x = Checks.house("i0,9;s11;");
        x.powder(0);
        checks.due("in the hour of SUPPER", x.behind(11, 0, 1), 0);
        checks.due("SUPPER is over", x.behind(12, 0, 1), 5);
        checks.due("its SHADE ahead", x.behind(11, 0, 0), 6);
        checks.due("POWDER stays", x.item(0, 4), 1);
        BlueByTouch first = Checks.house("i0,9;s0;");
        first.powder(0);
        checks.due("behind none", first.behind(0, 0, 1), 0);
        checks.due("SUPPER in hour 0", first.behind(1, 0, 1), 9);
    }
}
