import java.util.Random;

/** Long rows of calls, drawn from fixed seeds, each answer held against the Model's. */
public final class ModelTest {
    private static final int RUNS = 600, CALLS = 512;
    private static final int[] WILD = {Integer.MIN_VALUE, -65536, -33, -32, -2, 31, 32, 33, 64, 255, 512, 65536, Integer.MAX_VALUE};
    private static final Checks checks = new Checks();

    private final Random random;
    private final boolean wild;
    private final BlueByTouch x = new BlueByTouch();
    private final Model model = new Model();
    private int calls = 0;

    private ModelTest(int seed) {
        random = new Random(seed);
        wild = seed % 10 == 9;
    }

    public static void main(String[] args) {
        for (int seed = 0; seed < RUNS; seed++) {
            new ModelTest(seed).run();
        }
        checks.end();
    }

    private void run() {
        if (random.nextInt(4) > 0) {
            writeAndLay();
        }
        while (calls < CALLS - 210) {
            if (random.nextInt(60) == 0) {
                writeAndLay();
            }
            call(random.nextInt(32));
        }
    }

    private void writeAndLay() {
        due("wipe()", x.wipe(), model.wipe());
        String text = text();
        for (int p = 0; p < text.length() && calls < CALLS - 40; p++) {
            int letter = text.charAt(p);
            due("write(" + letter + ")", x.write(letter), model.write(letter));
        }
        due("fault() of " + text, x.fault(), model.fault());
        due("lay() of " + text, x.lay(), model.lay());
    }

    private String text() {
        StringBuilder text = new StringBuilder();
        int items = 1 + random.nextInt(9);
        for (int i = 0; i < items; i++) {
            int shade = random.nextBoolean() ? 0 : random.nextInt(10);
            text.append('i').append(random.nextInt(6)).append(',').append(shade).append(';');
        }
        int touches = items < 2 ? 0 : random.nextInt(11);
        for (int t = 0; t < touches; t++) {
            int a = random.nextInt(items);
            int b = (a + 1 + random.nextInt(items - 1)) % items;
            text.append('t').append(random.nextInt(12)).append(',').append(a).append(',').append(b).append(';');
        }
        for (int w = random.nextInt(4); w > 0; w--) {
            text.append('w').append(random.nextInt(12)).append(',').append(random.nextInt(items)).append(';');
        }
        if (random.nextInt(3) > 0) {
            text.append('s').append(random.nextInt(12)).append(';');
        }
        if (random.nextInt(5) == 0) {
            spoil(text);
        }
        return text.toString();
    }

    private void spoil(StringBuilder text) {
        int place = random.nextInt(text.length());
        char letter = "itws0123456789,;; x".charAt(random.nextInt(19));
        switch (random.nextInt(3)) {
            case 0: text.setCharAt(place, letter); break;
            case 1: text.insert(place, letter); break;
            default: text.deleteCharAt(place);
        }
    }

    /** Mostly such as there are, now and then beyond. */
    private int number(int low, int high) {
        if (wild && random.nextInt(4) == 0) {
            return random.nextBoolean() ? random.nextInt() : WILD[random.nextInt(WILD.length)];
        }
        switch (random.nextInt(24)) {
            case 0: return low - 1;
            case 1: return high + 1;
            default: return low + random.nextInt(high - low + 1);
        }
    }

    private int anItem() {
        return number(0, model.count(0) - 1);
    }

    /** Such that what is SHOWN can well be so. */
    private int likelyShade(int i) {
        switch (random.nextInt(4)) {
            case 0: return number(0, 9);
            case 1: return 0;
            case 2: return model.behind(random.nextInt(5), i, 0);
            default: return model.item(i, 1);
        }
    }

    private void call(int which) {
        int i = anItem();
        int j = anItem();
        int what = number(0, 1);
        switch (which) {
            case 0: due("wipe()", x.wipe(), model.wipe()); break;
            case 1: letter(number(32, 126)); break;
            case 2: due("fault()", x.fault(), model.fault()); break;
            case 3: if (random.nextInt(8) == 0) { due("lay()", x.lay(), model.lay()); } break;
            case 4: case 5: item(i, number(0, 4)); break;
            case 6: hour(number(0, 11), what); break;
            case 7: pass(number(1, 24)); break;
            case 8: pass(1 + random.nextInt(3)); break;
            case 9: case 10: due("touch(" + i + ", " + j + ")", x.touch(i, j), model.touch(i, j)); break;
            case 11: due("wash(" + i + ")", x.wash(i), model.wash(i)); break;
            case 12: case 13: due("powder(" + i + ")", x.powder(i), model.powder(i)); break;
            case 14: due("undo()", x.undo(), model.undo()); break;
            case 15: behind(number(0, 48), i, what); break;
            case 16: asIf(i, number(0, 9), number(0, 3)); break;
            case 17: soap(number(0, 9)); break;
            case 18: due("alike(" + what + ")", x.alike(what), model.alike(what)); break;
            case 19: case 20: show(i, likelyShade(i)); break;
            case 21: if (random.nextInt(3) == 0) { due("forget()", x.forget(), model.forget()); } break;
            case 22: due("touched(" + what + ")", x.touched(what), model.touched(what)); break;
            case 23: due("order(" + what + ")", x.order(what), model.order(what)); break;
            case 24: due("box()", x.box(), model.box()); break;
            case 25: from(i, number(0, 11)); break;
            case 26: case 27: led(i, j, number(0, 11)); break;
            case 28: dogs(number(0, 9999), number(1, 48), what); break;
            case 29: due("keep()", x.keep(), model.keep()); break;
            case 30: due("back()", x.back(), model.back()); break;
            default: counts();
        }
    }

    private void letter(int letter) {
        due("write(" + letter + ")", x.write(letter), model.write(letter));
    }

    private void item(int i, int what) {
        due("item(" + i + ", " + what + ")", x.item(i, what), model.item(i, what));
    }

    private void hour(int h, int what) {
        due("hour(" + h + ", " + what + ")", x.hour(h, what), model.hour(h, what));
    }

    private void pass(int n) {
        due("pass(" + n + ")", x.pass(n), model.pass(n));
        for (int i = 0; i < model.count(0); i++) {
            item(i, 1);
            item(i, 4);
        }
    }

    private void behind(int n, int i, int what) {
        due("behind(" + n + ", " + i + ", " + what + ")", x.behind(n, i, what), model.behind(n, i, what));
    }

    private void asIf(int i, int s, int k) {
        due("asIf(" + i + ", " + s + ", " + k + ")", x.asIf(i, s, k), model.asIf(i, s, k));
    }

    private void soap(int s) {
        due("soap(" + s + ")", x.soap(s), model.soap(s));
    }

    private void show(int i, int s) {
        due("show(" + i + ", " + s + ")", x.show(i, s), model.show(i, s));
    }

    private void from(int i, int h) {
        due("from(" + i + ", " + h + ")", x.from(i, h), model.from(i, h));
    }

    private void led(int a, int b, int h) {
        due("led(" + a + ", " + b + ", " + h + ")", x.led(a, b, h), model.led(a, b, h));
    }

    private void dogs(int z, int n, int what) {
        due("dogs(" + z + ", " + n + ", " + what + ")", x.dogs(z, n, what), model.dogs(z, n, what));
    }

    private void counts() {
        for (int what = -1; what <= 11; what++) {
            due("count(" + what + ")", x.count(what), model.count(what));
        }
    }

    private void due(String call, int got, int want) {
        calls++;
        checks.due("call " + calls + ": " + call, got, want);
    }
}
