import java.util.ArrayList;
import java.util.List;

/**
 * Each refused call answers the first of BAD, NO, NONE, FULL that holds, and nothing has changed behind it: the object
 * is held against a twin on which it was not called, by all that can be asked, then undone, back and LAID.
 */
public final class RefusedTest {
    private static final int BAD = -1, NO = -2, FULL = -3, NONE = -4;
    private static final int[] BELOW = {-1, Integer.MIN_VALUE};
    private static final Checks checks = new Checks();

    private interface Call {
        int on(BlueByTouch x);
    }

    private record Refused(String name, int want, Call call) { }

    private interface House {
        BlueByTouch make();
    }

    public static void main(String[] args) {
        List<Refused> atFirst = badCalls(7, new int[] {1, 5});
        noneAtFirst(atFirst);
        hold("at first", BlueByTouch::new, atFirst);
        List<Refused> midway = badCalls(5, new int[] {2, 4});
        noneMidway(midway);
        hold("midway", RefusedTest::midway, midway);
        List<Refused> full = badCalls(9, new int[] {3, 4});
        noneWhenFull(full);
        hold("full", RefusedTest::full, full);
        checks.end();
    }

    /** Hour 11; one under POWDER; a TEXT with a FAULT; 1 KEPT, 2 SHOWN, 5 that can be UNDONE. */
    private static BlueByTouch midway() {
        BlueByTouch x = Checks.house("i0,9;i0,3;i3,4;i5,0;i4,0;t0,0,1;t11,1,2;t3,0,4;w3,0;s4;");
        x.wipe();
        Checks.write(x, "i1,2;i3,3;x");
        x.pass(11);
        x.keep();
        x.wash(1);
        x.touch(0, 1);
        x.powder(3);
        x.powder(0);
        x.show(1, 0);
        x.show(0, 1);
        return x;
    }

    /** 200 letters, 9 ITEMS, 10 touches, 4 washings; all PEOPLE under POWDER; 8 can be UNDONE, 2 KEPT, 6 SHOWN. */
    private static BlueByTouch full() {
        BlueByTouch x = Checks.house("i0,9;i1,8;i2,7;i3,6;i4,5;i5,4;i0,3;i2,2;i0,0;"
            + "t0,0,1;t1,1,2;t2,2,3;t3,3,4;t4,4,5;t5,5,6;t6,6,7;t7,7,8;t8,6,0;t9,0,8;" + "w0,0;w1,1;w2,2;w3,8;"
            + "s7;".repeat(19) + "s03;s11;");
        x.pass(24);
        x.keep();
        x.touch(4, 3);
        x.keep();
        for (int i : new int[] {0, 1, 2, 5, 6, 7, 8}) {
            x.powder(i);
        }
        for (int n = 0; n < 6; n++) {
            x.show(n, x.item(n, 1));
        }
        checks.due("all that is SHOWN when full is so", x.touched(0) > 0 ? 1 : 0, 1);
        return x;
    }

    private static void add(List<Refused> calls, String name, int want, Call call) {
        calls.add(new Refused(name, want, call));
    }

    /** None of these numbers is told, however things stand: BAD ahead of NO, NONE and FULL. */
    private static List<Refused> badCalls(int items, int[] things) {
        List<Refused> calls = new ArrayList<>();
        badLettersAndHours(calls);
        for (int i : beyond(items)) {
            badItem(calls, i);
            badPerson(calls, i);
        }
        for (int i : things) {
            badPerson(calls, i);
        }
        for (int s : beyond(10)) {
            add(calls, "asIf(0, " + s + ", 0)", BAD, x -> x.asIf(0, s, 0));
            add(calls, "asIf(0, " + s + ", 3)", BAD, x -> x.asIf(0, s, 3));
            add(calls, "soap(" + s + ")", BAD, x -> x.soap(s));
            add(calls, "show(0, " + s + ")", BAD, x -> x.show(0, s));
        }
        for (int what : beyond(2)) {
            badWhat(calls, what);
        }
        for (int what : beyond(5)) {
            add(calls, "item(0, " + what + ")", BAD, x -> x.item(0, what));
        }
        for (int k : beyond(4)) {
            add(calls, "asIf(0, 9, " + k + ")", BAD, x -> x.asIf(0, 9, k));
        }
        for (int what : beyond(11)) {
            add(calls, "count(" + what + ")", BAD, x -> x.count(what));
        }
        badDogs(calls);
        return calls;
    }

    /** The numbers just outside 0 to most - 1, and the farthest ones. */
    private static int[] beyond(int most) {
        return new int[] {BELOW[0], BELOW[1], most, Integer.MAX_VALUE};
    }

    private static void badLettersAndHours(List<Refused> calls) {
        for (int letter : new int[] {31, 127, 0, -1, Integer.MIN_VALUE, Integer.MAX_VALUE}) {
            add(calls, "write(" + letter + ")", BAD, x -> x.write(letter));
        }
        for (int n : new int[] {0, 25, -1, Integer.MIN_VALUE, Integer.MAX_VALUE}) {
            add(calls, "pass(" + n + ")", BAD, x -> x.pass(n));
        }
        for (int n : beyond(49)) {
            add(calls, "behind(" + n + ", 0, 0)", BAD, x -> x.behind(n, 0, 0));
        }
        for (int h : beyond(12)) {
            add(calls, "hour(" + h + ", 0)", BAD, x -> x.hour(h, 0));
            add(calls, "hour(" + h + ", 1)", BAD, x -> x.hour(h, 1));
            add(calls, "from(0, " + h + ")", BAD, x -> x.from(0, h));
            add(calls, "led(0, 0, " + h + ")", BAD, x -> x.led(0, 0, h));
            add(calls, "led(0, 1, " + h + ")", BAD, x -> x.led(0, 1, h));
        }
    }

    private static void badItem(List<Refused> calls, int i) {
        add(calls, "item(" + i + ", 0)", BAD, x -> x.item(i, 0));
        add(calls, "touch(0, " + i + ")", BAD, x -> x.touch(0, i));
        add(calls, "touch(" + i + ", 0)", BAD, x -> x.touch(i, 0));
        add(calls, "touch(" + i + ", " + i + ")", BAD, x -> x.touch(i, i));
        add(calls, "behind(1, " + i + ", 0)", BAD, x -> x.behind(1, i, 0));
        add(calls, "behind(1, " + i + ", 1)", BAD, x -> x.behind(1, i, 1));
        add(calls, "show(" + i + ", 0)", BAD, x -> x.show(i, 0));
        add(calls, "from(" + i + ", 11)", BAD, x -> x.from(i, 11));
        add(calls, "led(" + i + ", 0, 11)", BAD, x -> x.led(i, 0, 11));
        add(calls, "led(0, " + i + ", 11)", BAD, x -> x.led(0, i, 11));
        add(calls, "led(" + i + ", " + i + ", 11)", BAD, x -> x.led(i, i, 11));
    }

    private static void badPerson(List<Refused> calls, int i) {
        add(calls, "wash(" + i + ")", BAD, x -> x.wash(i));
        add(calls, "powder(" + i + ")", BAD, x -> x.powder(i));
        add(calls, "asIf(" + i + ", 0, 0)", BAD, x -> x.asIf(i, 0, 0));
        add(calls, "asIf(" + i + ", 9, 1)", BAD, x -> x.asIf(i, 9, 1));
    }

    private static void badWhat(List<Refused> calls, int what) {
        add(calls, "hour(0, " + what + ")", BAD, x -> x.hour(0, what));
        add(calls, "behind(1, 0, " + what + ")", BAD, x -> x.behind(1, 0, what));
        add(calls, "alike(" + what + ")", BAD, x -> x.alike(what));
        add(calls, "touched(" + what + ")", BAD, x -> x.touched(what));
        add(calls, "order(" + what + ")", BAD, x -> x.order(what));
        add(calls, "dogs(0, 1, " + what + ")", BAD, x -> x.dogs(0, 1, what));
    }

    private static void badDogs(List<Refused> calls) {
        for (int z : beyond(10000)) {
            add(calls, "dogs(" + z + ", 1, 0)", BAD, x -> x.dogs(z, 1, 0));
        }
        for (int n : new int[] {0, 49, -1, Integer.MIN_VALUE, Integer.MAX_VALUE}) {
            add(calls, "dogs(0, " + n + ", 1)", BAD, x -> x.dogs(0, n, 1));
        }
        add(calls, "touch(0, 0)", BAD, x -> x.touch(0, 0));
        add(calls, "touch(1, 1)", BAD, x -> x.touch(1, 1));
    }

    private static void noneAtFirst(List<Refused> calls) {
        add(calls, "lay()", NO, BlueByTouch::lay);
        add(calls, "undo()", NO, BlueByTouch::undo);
        add(calls, "back()", NO, BlueByTouch::back);
        add(calls, "fault()", NONE, BlueByTouch::fault);
        add(calls, "alike(1)", NONE, x -> x.alike(1));
        add(calls, "asIf(2, 9, 0)", NONE, x -> x.asIf(2, 9, 0));
        add(calls, "asIf(2, 8, 2)", NONE, x -> x.asIf(2, 8, 2));
        add(calls, "asIf(2, 0, 1)", NONE, x -> x.asIf(2, 0, 1));
        add(calls, "led(0, 5, 4)", NONE, x -> x.led(0, 5, 4));
    }

    private static void noneMidway(List<Refused> calls) {
        add(calls, "lay()", NO, BlueByTouch::lay);
        add(calls, "powder(0)", NO, x -> x.powder(0));
        add(calls, "powder(3)", NO, x -> x.powder(3));
        add(calls, "alike(1)", NONE, x -> x.alike(1));
        add(calls, "touched(1)", NONE, x -> x.touched(1));
        add(calls, "asIf(0, 9, 3)", NONE, x -> x.asIf(0, 9, 3));
        add(calls, "led(3, 0, 11)", NONE, x -> x.led(3, 0, 11));
    }

    private static void noneWhenFull(List<Refused> calls) {
        for (int letter : new int[] {32, 105, 126}) {
            add(calls, "write(" + letter + ")", FULL, x -> x.write(letter));
        }
        for (int i : new int[] {0, 1, 2, 5, 6, 7, 8}) {
            add(calls, "powder(" + i + ")", NO, x -> x.powder(i));
        }
        add(calls, "show(0, 0)", FULL, x -> x.show(0, 0));
        add(calls, "show(8, 9)", FULL, x -> x.show(8, 9));
        add(calls, "show(5, 9)", FULL, x -> x.show(5, 9));
        add(calls, "keep()", FULL, BlueByTouch::keep);
        add(calls, "alike(1)", NONE, x -> x.alike(1));
        add(calls, "asIf(8, 9, 0)", NONE, x -> x.asIf(8, 9, 0));
        add(calls, "led(8, 1, 0)", NONE, x -> x.led(8, 1, 0));
        add(calls, "fault()", NONE, BlueByTouch::fault);
    }

    private static void hold(String when, House house, List<Refused> calls) {
        for (Refused refused : calls) {
            String of = when + ", " + refused.name;
            BlueByTouch x = house.make();
            BlueByTouch twin = house.make();
            checks.due(of, refused.call.on(x), refused.want);
            same(of, x, twin);
        }
    }

    private static void same(String of, BlueByTouch x, BlueByTouch twin) {
        asked(of + ", then asked", x, twin);
        for (int n = 0; n < 9; n++) {
            checks.due(of + ", then undo", x.undo(), twin.undo());
            seen(of + ", then undone " + n, x, twin);
        }
        for (int n = 0; n < 3; n++) {
            checks.due(of + ", then back", x.back(), twin.back());
            seen(of + ", then back " + n, x, twin);
        }
        checks.due(of + ", then lay", x.lay(), twin.lay());
        counts(of + ", then LAID", x, twin);
        seen(of + ", then LAID", x, twin);
    }

    private static void counts(String of, BlueByTouch x, BlueByTouch twin) {
        for (int what = 0; what <= 10; what++) {
            checks.due(of + ": count(" + what + ")", x.count(what), twin.count(what));
        }
    }

    private static void seen(String of, BlueByTouch x, BlueByTouch twin) {
        for (int i = 0; i < 9; i++) {
            checks.due(of + ": item(" + i + ", 2)", x.item(i, 2), twin.item(i, 2));
        }
    }

    private static void asked(String of, BlueByTouch x, BlueByTouch twin) {
        counts(of, x, twin);
        for (int i = 0; i < 9; i++) {
            for (int what = 1; what <= 4; what++) {
                checks.due(of + ": item(" + i + ", " + what + ")", x.item(i, what), twin.item(i, what));
            }
            checks.due(of + ": behind(48, " + i + ", 0)", x.behind(48, i, 0), twin.behind(48, i, 0));
        }
        for (int what = 0; what <= 1; what++) {
            checks.due(of + ": touched(" + what + ")", x.touched(what), twin.touched(what));
            checks.due(of + ": order(" + what + ")", x.order(what), twin.order(what));
            checks.due(of + ": alike(" + what + ")", x.alike(what), twin.alike(what));
        }
        checks.due(of + ": fault()", x.fault(), twin.fault());
        checks.due(of + ": box()", x.box(), twin.box());
        checks.due(of + ": soap(0)", x.soap(0), twin.soap(0));
        checks.due(of + ": from(0, 11)", x.from(0, 11), twin.from(0, 11));
        checks.due(of + ": dogs(7, 5, 0)", x.dogs(7, 5, 0), twin.dogs(7, 5, 0));
    }
}
