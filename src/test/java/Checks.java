/** What the tests share: counting wrong answers, and making an object from a TEXT. */
final class Checks {
    private int made = 0;
    private int wrong = 0;

    void due(String call, int got, int want) {
        made++;
        if (got != want) {
            wrong++;
            System.out.println(call + " answered " + got + ", due is " + want);
        }
    }

    void end() {
        System.out.println(made + " answers, " + wrong + " of them not as due");
        if (wrong != 0 || made == 0) {
            System.exit(1);
        }
    }

    static void write(BlueByTouch x, String text) {
        for (char letter : text.toCharArray()) {
            x.write(letter);
        }
    }

    static BlueByTouch house(String text) {
        BlueByTouch x = new BlueByTouch();
        write(x, text);
        if (x.lay() < 1) {
            throw new IllegalStateException("not laid: " + text);
        }
        return x;
    }

    /** The SHADES of all ITEMS, as figures. */
    static String shades(BlueByTouch x) {
        StringBuilder all = new StringBuilder();
        for (int i = 0; i < x.count(0); i++) {
            all.append(x.item(i, 1));
        }
        return all.toString();
    }

    void dueShades(String when, BlueByTouch x, String want) {
        made++;
        String got = shades(x);
        if (!got.equals(want)) {
            wrong++;
            System.out.println("SHADES " + when + " are " + got + ", due is " + want);
        }
    }
}
