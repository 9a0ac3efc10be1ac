/** Promises 8 to 12: pass, touch, wash, powder, undo. */
public final class HoursTest {
    private static final int BAD = -1, NO = -2;
    private static final Checks checks = new Checks();

    public static void main(String[] args) {
        passGoesOn();
        passInSteps();
        passFades();
        passRepeatsEachDay();
        touchByKind();
        touchIsMutual();
        touchIsRefused();
        wash();
        powder();
        powderIsOff();
        powderIsOffBySupper();
        undo();
        undoAtMostEight();
        checks.end();
    }

    private static void passGoesOn() {
        BlueByTouch x = Checks.house("i0,0;");
        for (int n : new int[] {0, -1, 25, Integer.MIN_VALUE, Integer.MAX_VALUE}) {
            checks.due("pass(" + n + ")", x.pass(n), BAD);
        }
        checks.due("nothing to be UNDONE", x.count(7), 0);
        checks.due("pass(1)", x.pass(1), 1);
        checks.due("pass(10)", x.pass(10), 11);
        checks.due("pass(1) to the next day", x.pass(1), 0);
        checks.due("the hour", x.count(3), 0);
        checks.due("HOURS gone by", x.count(4), 12);
        checks.due("pass(24)", x.pass(24), 0);
        checks.due("pass(23)", x.pass(23), 11);
        checks.due("HOURS gone by", x.count(4), 59);
    }

    /** In an HOUR touches come first, as told, then washings, then the fading. */
    private static void passInSteps() {
        BlueByTouch x = Checks.house("i0,9;i0,0;i0,0;i2,0;t2,1,2;t2,0,1;t2,1,3;w2,1;w2,3;");
        x.pass(2);
        checks.dueShades("ahead of hour 2", x, "9000");
        x.pass(1);
        checks.dueShades("behind hour 2", x, "8502");
        BlueByTouch y = Checks.house("i0,9;i0,0;i0,0;t0,0,1;t0,1,2;");
        y.pass(1);
        checks.dueShades("told one behind the other", y, "987");
        BlueByTouch z = Checks.house("i0,9;i0,0;i0,0;t0,1,2;t0,0,1;");
        z.pass(1);
        checks.dueShades("told the other way round", z, "980");
        BlueByTouch w = Checks.house("i0,3;i0,0;w0,0;t0,0,1;");
        w.pass(1);
        checks.dueShades("washing behind the touch, though told ahead", w, "12");
        BlueByTouch v = Checks.house("i0,1;w2,0;");
        v.pass(3);
        checks.dueShades("0 at least", v, "0");
    }

    private static void passFades() {
        BlueByTouch x = Checks.house("i0,9;i1,9;i2,9;i3,9;i4,9;i5,9;i0,1;i3,1;i4,1;");
        String[] behind = {
            "999999111", "999999111", "888998011", "888998011", "888998011", "777897001",
            "777897001", "777897001", "666896001", "666896001", "666896001", "555795001", "555795001"};
        for (int h = 0; h < behind.length; h++) {
            x.pass(1);
            checks.dueShades("behind hour " + h, x, behind[h]);
        }
    }

    private static void passRepeatsEachDay() {
        BlueByTouch x = Checks.house("i5,0;i4,0;i0,0;t0,0,1;t11,1,2;w3,2;");
        x.pass(12);
        checks.dueShades("behind a day", x, "086");
        x.pass(24);
        checks.dueShades("behind three", x, "086");
        BlueByTouch y = Checks.house("i5,0;i4,0;i0,0;t0,0,1;t11,1,2;w3,2;");
        for (int n = 0; n < 36; n++) {
            y.pass(1);
        }
        checks.dueShades("behind three, by the hour", y, Checks.shades(x));
    }

    private static void touchByKind() {
        // What KIND gives what to a HAND (row 0) and to a GLOVE (row 1), from SHADE 6.
        int[] toHand = {5, 4, 5, 5, 5, 8};
        int[] toGlove = {4, 3, 4, 4, 4, 7};
        for (int kind = 0; kind <= 5; kind++) {
            BlueByTouch x = Checks.house("i" + kind + ",6;i0,0;i1,0;");
            checks.due("KIND " + kind + " to a HAND", x.touch(0, 1), toHand[kind]);
            checks.due("KIND " + kind + " to a GLOVE", x.touch(2, 0), toGlove[kind]);
            checks.dueShades("behind KIND " + kind, x, "6" + toHand[kind] + toGlove[kind]);
        }
        for (int kind = 2; kind <= 4; kind++) {
            BlueByTouch x = Checks.house("i" + kind + ",0;i0,6;");
            checks.due("a HAND to KIND " + kind, x.touch(0, 1), 5);
        }
        BlueByTouch duke = Checks.house("i5,0;i0,9;i5,3;i1,8;i0,8;i3,1;");
        checks.due("a DUKE stays", duke.touch(0, 1), 0);
        checks.due("two DUKES", duke.touch(0, 2), 0);
        checks.due("a GLOVE that is darker than 7", duke.touch(0, 3), 0);
        checks.due("a HAND of 8", duke.touch(0, 4), 0);
        checks.due("a CUP of 1", duke.touch(0, 5), 7);
        checks.dueShades("behind DUKES", duke, "093888");
        BlueByTouch light = Checks.house("i1,1;i0,0;i1,0;i0,1;i1,2;");
        checks.due("a GLOVE of 1 gives 0", light.touch(0, 1), 0);
        checks.due("a HAND of 1 gives 0", light.touch(3, 1), 0);
        checks.due("a GLOVE of 2 gives 0", light.touch(4, 1), 0);
        checks.due("none give none", light.touch(1, 2), 0);
        checks.dueShades("of the light ones", light, "10012");
        BlueByTouch gloves = Checks.house("i1,5;i1,2;i1,1;i0,3;i0,4;");
        checks.due("a GLOVE of 5 to one of 2", gloves.touch(0, 1), 0);
        checks.due("a GLOVE of 5 to one of 1", gloves.touch(0, 2), 1);
        checks.due("a HAND of 3 to a GLOVE of 2", gloves.touch(3, 1), 0);
        checks.due("a HAND of 4 to a GLOVE of 2", gloves.touch(4, 1), 0);
    }

    private static void touchIsMutual() {
        BlueByTouch x = Checks.house("i0,5;i0,4;i0,2;i1,9;");
        checks.due("4 to 5", x.touch(0, 1), 0);
        checks.due("the lighter number first", x.touch(2, 0), 2);
        checks.due("GLOVE 9 and HAND 5", x.touch(3, 0), 2);
        checks.dueShades("behind", x, "7449");
        checks.due("three can be UNDONE", x.count(7), 3);
        checks.due("no HOUR has gone by", x.count(4), 0);
    }

    private static void touchIsRefused() {
        BlueByTouch x = Checks.house("i0,9;i0,0;");
        int[][] pairs = {{0, 0}, {1, 1}, {0, 2}, {2, 0}, {-1, 0}, {0, -1}, {9, 9}, {Integer.MAX_VALUE, 0}, {0, Integer.MIN_VALUE}};
        for (int[] pair : pairs) {
            checks.due("touch(" + pair[0] + ", " + pair[1] + ")", x.touch(pair[0], pair[1]), BAD);
        }
        checks.dueShades("behind BAD", x, "90");
        checks.due("nothing to be UNDONE", x.count(7), 0);
    }

    private static void wash() {
        BlueByTouch x = Checks.house("i0,9;i1,9;i2,9;i3,9;i4,9;i5,9;i0,1;i2,3;");
        int[] want = {7, 7, 5, BAD, BAD, 7, 0, 0};
        for (int i = 0; i < want.length; i++) {
            checks.due("wash(" + i + ")", x.wash(i), want[i]);
        }
        checks.due("wash(-1)", x.wash(-1), BAD);
        checks.due("wash(8)", x.wash(8), BAD);
        checks.dueShades("behind washing", x, "77599700");
        checks.due("six can be UNDONE", x.count(7), 6);
        x.powder(0);
        checks.due("washing under POWDER", x.wash(0), 5);
        checks.due("POWDER stays by washing", x.item(0, 4), 1);
        checks.due("SEEN under POWDER", x.item(0, 2), 0);
    }

    private static void powder() {
        BlueByTouch x = Checks.house("i0,9;i1,9;i2,0;i3,9;i4,9;i5,9;");
        checks.due("powder(0)", x.powder(0), 1);
        checks.due("powder(0) again", x.powder(0), NO);
        checks.due("powder(5)", x.powder(5), 2);
        checks.due("powder(2), of SHADE 0", x.powder(2), 3);
        checks.due("powder(3)", x.powder(3), BAD);
        checks.due("powder(4)", x.powder(4), BAD);
        checks.due("powder(6)", x.powder(6), BAD);
        checks.due("powder(-1)", x.powder(-1), BAD);
        checks.due("powder(32)", x.powder(32), BAD);
        checks.due("three can be UNDONE", x.count(7), 3);
        checks.due("SHADE under POWDER", x.item(0, 1), 9);
        checks.due("SEEN under POWDER", x.item(0, 2), 0);
        checks.due("SEEN without", x.item(1, 2), 9);
        checks.due("an ITEM that has a SHADE under POWDER", x.count(5), 5);
        checks.due("given under POWDER", x.behind(0, 0, 0), 9);
    }

    private static void powderIsOff() {
        BlueByTouch x = Checks.house("i0,9;i0,8;i0,0;i3,0;t1,2,3;");
        x.powder(0);
        x.powder(1);
        x.powder(2);
        checks.due("a touch that changes no SHADE", x.touch(0, 1), 0);
        checks.due("it is off who touches", x.item(0, 4), 0);
        checks.due("it is off who is touched", x.item(1, 4), 0);
        checks.due("it stays on others", x.item(2, 4), 1);
        x.pass(1);
        checks.due("it stays by an HOUR", x.item(2, 4), 1);
        x.pass(1);
        checks.due("it is off by a touch that is told", x.item(2, 4), 0);
        checks.due("again", x.powder(2), 1);
        checks.due("touched by a THING", x.touch(3, 2), 0);
        checks.due("off again", x.item(2, 4), 0);
    }

    private static void powderIsOffBySupper() {
        BlueByTouch x = Checks.house("i0,9;s4;");
        x.powder(0);
        x.pass(4);
        checks.due("ahead of SUPPER", x.item(0, 2), 0);
        x.pass(1);
        checks.due("behind SUPPER", x.item(0, 2), 8);
        x.powder(0);
        x.pass(11);
        checks.due("till the next SUPPER", x.item(0, 4), 1);
        x.pass(1);
        checks.due("behind the next SUPPER", x.item(0, 4), 0);
        BlueByTouch y = Checks.house("i0,9;i0,9;");
        y.powder(0);
        y.powder(1);
        y.pass(7);
        checks.due("SUPPER without is behind hour 7", y.item(0, 4) + y.item(1, 4), 2);
        y.pass(1);
        checks.due("it is off all", y.item(0, 4) + y.item(1, 4), 0);
    }

    private static void undo() {
        BlueByTouch x = Checks.house("i0,9;i0,0;i2,9;t0,0,1;");
        checks.due("nothing to be UNDONE", x.undo(), NO);
        x.pass(3);
        x.touch(1, 2);
        x.wash(2);
        x.powder(0);
        checks.dueShades("behind four", x, "874");
        checks.due("undo POWDER", x.undo(), 3);
        checks.due("no POWDER", x.item(0, 4), 0);
        checks.due("undo the washing", x.undo(), 2);
        checks.dueShades("ahead of the washing", x, "878");
        checks.due("undo the touch", x.undo(), 1);
        checks.dueShades("ahead of the touch", x, "878");
        checks.due("undo three HOURS at one time", x.undo(), 0);
        checks.dueShades("at first", x, "909");
        checks.due("the hour", x.count(3), 0);
        checks.due("HOURS gone by", x.count(4), 0);
        checks.due("no more", x.undo(), NO);
        x.powder(0);
        x.touch(0, 1);
        x.undo();
        checks.due("POWDER is on again", x.item(0, 4), 1);
        x.show(0, 9);
        x.undo();
        checks.due("SHOWN stays", x.count(6), 1);
    }

    private static void undoAtMostEight() {
        BlueByTouch x = Checks.house("i0,9;");
        for (int n = 1; n <= 8; n++) {
            x.pass(1);
            checks.due("can be UNDONE", x.count(7), n);
        }
        x.pass(2);
        x.pass(3);
        checks.due("eight at most", x.count(7), 8);
        for (int left = 7; left >= 0; left--) {
            checks.due("undo", x.undo(), left);
            checks.due("HOURS gone by", x.count(4), left == 7 ? 10 : 2 + left);
        }
        checks.due("the first two are gone", x.undo(), NO);
        checks.due("HOURS that stay", x.count(4), 2);
    }
}
