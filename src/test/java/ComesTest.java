/** Promises 13 to 16: behind, asIf, soap, alike. */
public final class ComesTest {
    private static final int BAD = -1, NONE = -4;
    private static final Checks checks = new Checks();

    public static void main(String[] args) {
        behind();
        behindChangesNothing();
        behindIsRefused();
        asIfByFewest();
        asIfByFirst();
        asIfByThree();
        asIfIsRefused();
        soap();
        alike();
        checks.end();
    }

    private static void behind() {
        BlueByTouch x = Checks.house("i5,3;i0,0;i1,0;i3,6;i4,5;t0,0,1;t1,1,2;t4,2,3;w3,1;w7,2;s5;");
        x.touch(4, 1);
        x.powder(0);
        x.powder(2);
        BlueByTouch twin = Checks.house("i5,3;i0,0;i1,0;i3,6;i4,5;t0,0,1;t1,1,2;t4,2,3;w3,1;w7,2;s5;");
        twin.touch(4, 1);
        twin.powder(0);
        twin.powder(2);
        for (int n = 0; n <= 48; n++) {
            for (int i = 0; i < 5; i++) {
                checks.due("behind(" + n + ", " + i + ", 0)", x.behind(n, i, 0), twin.item(i, 1));
                if (n % 3 == 0) {
                    checks.due("behind(" + n + ", " + i + ", 1)", x.behind(n, i, 1), twin.item(i, 2));
                }
            }
            twin.pass(1);
        }
        BlueByTouch y = Checks.house("i0,9;i3,9;s1;");
        y.powder(0);
        int[][] want = {{0, 9, 0}, {1, 9, 0}, {2, 9, 9}, {3, 8, 8}, {12, 5, 5}, {24, 1, 1}, {27, 0, 0}, {48, 0, 0}};
        for (int[] row : want) {
            checks.due("SHADE behind " + row[0], y.behind(row[0], 0, 0), row[1]);
            checks.due("SEEN behind " + row[0], y.behind(row[0], 0, 1), row[2]);
        }
        checks.due("a CUP behind 48", y.behind(48, 1, 0), 1);
        y.pass(2);
        checks.due("from now on", y.behind(1, 0, 0), 8);
    }

    private static void behindChangesNothing() {
        BlueByTouch x = Checks.house("i0,9;i0,0;t0,0,1;");
        x.powder(0);
        x.behind(48, 1, 0);
        checks.dueShades("behind nothing", x, "90");
        checks.due("POWDER", x.item(0, 4), 1);
        checks.due("the hour", x.count(3) + x.count(4), 0);
        checks.due("can be UNDONE", x.count(7), 1);
    }

    private static void behindIsRefused() {
        BlueByTouch x = Checks.house("i0,9;i0,0;");
        int[][] bad = {{-1, 0, 0}, {49, 0, 0}, {0, 2, 0}, {0, -1, 0}, {0, 0, 2}, {0, 0, -1}, {Integer.MAX_VALUE, 0, 0}};
        for (int[] row : bad) {
            checks.due("behind(" + row[0] + ", " + row[1] + ", " + row[2] + ")", x.behind(row[0], row[1], row[2]), BAD);
        }
    }

    private static void route(String text, int i, int s, int... want) {
        BlueByTouch x = Checks.house(text);
        String of = " of asIf(" + i + ", " + s + ") in " + text;
        checks.due("length" + of, x.asIf(i, s, 0), want.length);
        for (int k = 1; k <= 3; k++) {
            checks.due("place " + k + of, x.asIf(i, s, k), k <= want.length ? want[k - 1] : NONE);
        }
        checks.due("nothing can be UNDONE" + of, x.count(7), 0);
    }

    private static void noRoute(String text, int i, int s) {
        BlueByTouch x = Checks.house(text);
        for (int k = 0; k <= 3; k++) {
            checks.due("asIf(" + i + ", " + s + ", " + k + ") in " + text, x.asIf(i, s, k), NONE);
        }
    }

    private static void asIfByFewest() {
        route("i0,4;i3,9;", 0, 4);
        route("i0,4;i3,9;", 0, 8, 1);
        noRoute("i0,4;i3,9;", 0, 9);
        noRoute("i0,4;i3,9;", 0, 3);
        noRoute("i0,4;", 0, 5);
        route("i0,4;", 0, 4);
        route("i5,4;i0,0;", 0, 4);
        noRoute("i5,4;i0,0;", 0, 8);
        route("i0,0;i5,0;", 0, 8, 1);
        route("i1,0;i5,0;", 0, 7, 1);
        route("i1,0;i4,9;", 0, 7, 1);
        route("i0,0;i1,9;", 0, 7, 1);
    }

    private static void asIfByFirst() {
        route("i3,6;i0,0;i4,6;i5,0;", 1, 5, 0);
        route("i3,3;i0,0;i4,6;i5,0;i4,6;", 1, 5, 2);
        route("i0,0;i1,0;i3,0;i5,0;", 1, 7, 3);
        route("i0,0;i3,2;i5,0;i5,9;", 0, 8, 2);
        BlueByTouch x = Checks.house("i0,0;i3,6;i4,6;");
        checks.due("from now on", x.asIf(0, 5, 1), 1);
        x.powder(0);
        checks.due("POWDER is no SHADE", x.asIf(0, 0, 0), 0);
        x.touch(0, 2);
        checks.due("he has it already", x.asIf(0, 5, 0), 0);
        checks.due("none is darker than it", x.asIf(0, 6, 0), NONE);
        checks.dueShades("behind asIf", x, "566");
    }

    /** What he gave comes back lighter, so no row of touches leads to what one touch can't. */
    private static void asIfByThree() {
        noRoute("i1,0;i5,0;i3,0;", 0, 6);
        noRoute("i0,0;i3,3;i3,1;", 0, 3);
        noRoute("i0,6;i1,2;i2,3;i4,6;", 0, 7);
    }

    private static void asIfIsRefused() {
        BlueByTouch x = Checks.house("i0,4;i3,9;i4,9;i5,0;");
        int[][] bad = {{1, 9, 0}, {2, 9, 0}, {4, 9, 0}, {-1, 9, 0}, {0, -1, 0}, {0, 10, 0}, {0, 4, -1}, {0, 4, 4}, {1, 10, 4}};
        for (int[] row : bad) {
            checks.due("asIf(" + row[0] + ", " + row[1] + ", " + row[2] + ")", x.asIf(row[0], row[1], row[2]), BAD);
        }
    }

    private static void soap() {
        BlueByTouch x = Checks.house("i0,9;i1,8;i2,9;i3,9;i4,9;i5,7;i2,4;i2,5;");
        // By PEOPLE: HAND 9, GLOVE 8, LAUNDRESS 9, DUKE 7, LAUNDRESS 4, LAUNDRESS 5.
        int[] want = {
            5 + 4 + 3 + 4 + 1 + 2, 4 + 4 + 2 + 3 + 1 + 1, 4 + 3 + 2 + 3 + 1 + 1, 3 + 3 + 2 + 2 + 1 + 1,
            3 + 2 + 2 + 2 + 0 + 1, 2 + 2 + 1 + 1, 2 + 1 + 1 + 1, 1 + 1 + 1, 1 + 0 + 1, 0};
        for (int s = 0; s <= 9; s++) {
            checks.due("soap(" + s + ")", x.soap(s), want[s]);
        }
        x.powder(0);
        checks.due("POWDER washes nothing", x.soap(8), 2);
        checks.due("soap(-1)", x.soap(-1), BAD);
        checks.due("soap(10)", x.soap(10), BAD);
        checks.dueShades("behind soap", x, "98999745");
        checks.due("a THING alone is dark", Checks.house("i3,9;i0,0;").soap(0), 0);
    }

    private static void alike() {
        BlueByTouch x = Checks.house("i3,4;i0,0;i0,4;i5,2;i4,4;i2,4;i1,0;i1,2;i0,4;");
        checks.due("how many", x.alike(0), 4);
        checks.due("the first", x.alike(1), 25);
        x.powder(2);
        checks.due("how many SEEN", x.alike(0), 2);
        checks.due("the first SEEN", x.alike(1), 37);
        x.powder(3);
        checks.due("0 under POWDER is not alike", x.alike(0), 1);
        checks.due("the first of one", x.alike(1), 58);
        x.wash(8);
        checks.due("7 and 8 are both 2 then", x.alike(1), 78);
        x.wash(7);
        checks.due("none", x.alike(0), 0);
        checks.due("the first of none", x.alike(1), NONE);
        checks.due("alike(2)", x.alike(2), BAD);
        checks.due("alike(-1)", x.alike(-1), BAD);
        checks.due("0 and 1", Checks.house("i0,1;i0,1;").alike(1), 1);
    }
}
