/** Promises 24 to 27: dogs, keep, back, count. */
public final class DogsTest {
    private static final int BAD = -1, NO = -2, FULL = -3;
    private static final Checks checks = new Checks();

    public static void main(String[] args) {
        dogs();
        dogsAsTouches();
        dogsAreRefused();
        keep();
        back();
        count();
        checks.end();
    }

    private static void dogs() {
        // z 0, k 0: x is 1, DRAW 0: alike, no touch. k 1: x is 6152, DRAW 5185, by 8 it is 648: 1 and 0 of 2 and of 3.
        BlueByTouch two = Checks.house("i0,9;i0,0;");
        checks.due("of two, none touch at first", two.dogs(0, 1, 0), 1);
        checks.due("of two, both touch then", two.dogs(0, 2, 0), 2);
        BlueByTouch three = Checks.house("i0,9;i0,0;i4,0;");
        checks.due("of three, none touch at first", three.dogs(0, 1, 0), 1);
        checks.due("of three, two touch then", three.dogs(0, 2, 0), 2);
        checks.due("the darkest", three.dogs(0, 2, 1), 9);
        checks.due("behind hour 2", three.dogs(0, 3, 1), 8);
        BlueByTouch thing = Checks.house("i0,2;i4,9;i3,9;");
        checks.due("of the PEOPLE the darkest", thing.dogs(0, 1, 1), 2);
        checks.due("of the PEOPLE the darkest, touched", thing.dogs(0, 2, 1), 8);
        BlueByTouch one = Checks.house("i0,9;");
        checks.due("one can touch nobody", one.dogs(77, 48, 0), 0);
        checks.due("one can touch nobody", one.dogs(77, 3, 1), 8);
        BlueByTouch first = new BlueByTouch();
        checks.due("the first house", first.dogs(5, 48, 0), 6);
        checks.due("the darkest of the first house", first.dogs(5, 48, 1), 6);
    }

    /** The same by touch and pass on a twin. */
    private static void dogsAsTouches() {
        String text = "i0,9;i0,0;i4,0;i3,0;i2,0;i1,3;t3,1,4;w5,0;";
        for (int z : new int[] {0, 1, 2, 7, 123, 4567, 9998, 9999}) {
            BlueByTouch x = Checks.house(text);
            BlueByTouch twin = Checks.house(text);
            x.pass(1);
            twin.pass(1);
            for (int k = 0; k < 48; k++) {
                long draw = Math.floorMod((7919L * z + 6151L * k + 1) * (7919L * z + 6151L * k + 1), 65521L) / 8;
                twin.touch((int) (draw % 6), (int) (draw / 8 % 6));
                twin.pass(1);
                int darkest = 0;
                for (int i : new int[] {0, 1, 4, 5}) {
                    darkest = Math.max(darkest, twin.item(i, 1));
                }
                checks.due("dogs(" + z + ", " + (k + 1) + ", 0)", x.dogs(z, k + 1, 0), twin.count(5));
                checks.due("dogs(" + z + ", " + (k + 1) + ", 1)", x.dogs(z, k + 1, 1), darkest);
            }
            checks.due("the hour stays", x.count(4), 1);
            checks.due("no more to be UNDONE", x.count(7), 1);
        }
    }

    private static void dogsAreRefused() {
        BlueByTouch x = Checks.house("i0,9;i0,0;");
        int[][] bad = {{-1, 1, 0}, {10000, 1, 0}, {0, 0, 0}, {0, 49, 0}, {0, -1, 1}, {0, 1, 2}, {0, 1, -1}, {Integer.MAX_VALUE, 1, 0}};
        for (int[] row : bad) {
            checks.due("dogs(" + row[0] + ", " + row[1] + ", " + row[2] + ")", x.dogs(row[0], row[1], row[2]), BAD);
        }
        checks.due("dogs(9999, 1, 1)", x.dogs(9999, 1, 1), 9);
        checks.due("dogs(0, 1, 1)", x.dogs(0, 1, 1), 9);
    }

    private static void keep() {
        BlueByTouch x = Checks.house("i0,9;i0,0;");
        x.pass(1);
        checks.due("keep", x.keep(), 1);
        checks.due("keep two", x.keep(), 2);
        checks.due("keep three", x.keep(), FULL);
        checks.due("two are KEPT", x.count(8), 2);
        checks.due("the HOUR can be UNDONE still", x.undo(), 0);
        checks.due("two are KEPT still", x.count(8), 2);
        x.back();
        checks.due("keep again", x.keep(), 2);
    }

    private static void back() {
        BlueByTouch x = Checks.house("i0,9;i0,0;t0,0,1;");
        checks.due("back without", x.back(), NO);
        x.powder(1);
        x.keep();
        x.pass(3);
        x.powder(0);
        x.show(0, 9);
        x.keep();
        x.wipe();
        x.write('i');
        x.wash(0);
        x.pass(10);
        x.show(1, 9);
        checks.due("back to the last", x.back(), 1);
        checks.dueShades("as KEPT last", x, "87");
        checks.due("the hour", x.count(3), 3);
        checks.due("HOURS gone by", x.count(4), 3);
        checks.due("POWDER of 0", x.item(0, 4), 1);
        checks.due("POWDER of 1", x.item(1, 4), 0);
        checks.due("nothing can be UNDONE", x.undo(), NO);
        checks.due("SHOWN stays", x.count(6), 2);
        checks.due("THE TEXT stays", x.count(9), 1);
        x.pass(1);
        checks.due("back to the first", x.back(), 0);
        checks.dueShades("as KEPT first", x, "90");
        checks.due("POWDER of 1 again", x.item(1, 4), 1);
        checks.due("the hour of the first", x.count(3), 0);
        checks.due("nothing can be UNDONE then", x.count(7), 0);
        checks.due("no more", x.back(), NO);
        x.keep();
        x.touch(0, 1);
        checks.due("back behind a touch", x.back(), 0);
        checks.dueShades("ahead of the touch", x, "90");
        x.touch(0, 1);
        checks.due("back without", x.back(), NO);
        checks.due("UNDONE stays by NO", x.count(7), 1);
    }

    private static void count() {
        BlueByTouch x = Checks.house("i3,9;i0,0;i1,2;i5,0;t0,0,1;t5,1,2;w3,2;s11;");
        x.pass(24);
        x.pass(2);
        x.touch(0, 3);
        x.show(0, 9);
        x.keep();
        x.keep();
        int[] want = {4, 3, 2, 2, 26, 2, 1, 3, 2, 43, 11};
        for (int what = 0; what < want.length; what++) {
            checks.due("count(" + what + ")", x.count(what), want[what]);
        }
        checks.due("count(11)", x.count(11), BAD);
        checks.due("count(-1)", x.count(-1), BAD);
        checks.due("count(MAX)", x.count(Integer.MAX_VALUE), BAD);
    }
}
