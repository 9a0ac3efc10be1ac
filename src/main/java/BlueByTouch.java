/** The dye that shows: who has the duke's blue, from whom, and how it looks at supper. */
public final class BlueByTouch {
    public static final int BAD = -1, NO = -2, FULL = -3, NONE = -4;

    private static final int HAND = 0, GLOVE = 1, LAUNDRESS = 2, CUP = 3, DAMP = 4, DUKE = 5;
    private static final int DARKEST = 9, DUKE_GIVES = 8;
    private static final int LETTERS_MOST = 200, NUMBERS_MOST = 3, FIGURES_MOST = 2;
    private static final int ITEMS_MOST = 9, TOUCHES_MOST = 10, WASHINGS_MOST = 4;
    private static final int HOURS_OF_DAY = 12, PASSED_MOST = 24, AHEAD_MOST = 48, SUPPER_UNTOLD = 7;
    private static final int UNDONE_MOST = 8, KEPT_MOST = 2, SHOWN_MOST = 6;
    private static final int ROUTE_MOST = 3, ORDERED_MOST = 6, DOGS_MOST = 9999;
    private static final String FIRST_TEXT =
            "i5,0;i3,0;i0,0;i1,0;i2,0;i4,6;i0,0;t0,0,1;t1,2,1;t2,3,5;t3,2,6;t4,4,5;w5,2;s7;";

    private final Page page = new Page();
    private House laid = new House();
    private House draft = new House();
    private final Stand now = new Stand();
    private final Stand trial = new Stand();
    private final Pile past = new Pile(UNDONE_MOST);
    private final Pile houses = new Pile(KEPT_MOST);
    private final Clues clues = new Clues();
    private final Twos twos = new Twos();
    private final Row route = new Row(ROUTE_MOST);
    private final Row links = new Row(ITEMS_MOST);

    public BlueByTouch() {
        for (int p = 0; p < FIRST_TEXT.length(); p++) {
            page.add(FIRST_TEXT.charAt(p));
        }
        layPage();
        page.clear();
    }

    // ---- houses

    public int write(int letter) {
        if (letter < 32 || letter > 126) {
            return BAD;
        }
        return page.add(letter) ? page.length() : FULL;
    }

    public int wipe() {
        int length = page.length();
        page.clear();
        return length;
    }

    public int fault() {
        return page.readInto(draft);
    }

    public int lay() {
        return layPage() ? laid.items : NO;
    }

    public int item(int i, int what) {
        if (!laid.has(i)) {
            return BAD;
        }
        switch (what) {
            case 0: return laid.kinds.at(i);
            case 1: return now.shades.at(i);
            case 2: return now.seen(i);
            case 3: return laid.hasPerson(i) ? 1 : 0;
            case 4: return now.isPowdered(i) ? 1 : 0;
            default: return BAD;
        }
    }

    public int hour(int h, int what) {
        if (!isHour(h)) {
            return BAD;
        }
        switch (what) {
            case 0: return laid.touchHours.times(h, laid.touches);
            case 1: return laid.washHours.times(h, laid.washings);
            default: return BAD;
        }
    }

    // ---- hours

    public int pass(int n) {
        if (n < 1 || n > PASSED_MOST) {
            return BAD;
        }
        past.push(now);
        now.goHours(laid, n);
        return now.hourNow;
    }

    public int touch(int a, int b) {
        if (!laid.has(a) || !laid.has(b) || a == b) {
            return BAD;
        }
        past.push(now);
        return now.meet(laid, a, b);
    }

    public int wash(int a) {
        if (!laid.hasPerson(a)) {
            return BAD;
        }
        past.push(now);
        now.rinse(laid, a);
        return now.shades.at(a);
    }

    public int powder(int a) {
        if (!laid.hasPerson(a)) {
            return BAD;
        }
        if (now.isPowdered(a)) {
            return NO;
        }
        past.push(now);
        now.powdered |= 1 << a;
        return Integer.bitCount(now.powdered);
    }

    public int undo() {
        return past.popInto(now) ? past.height() : NO;
    }

    // ---- what comes

    public int behind(int n, int i, int what) {
        if (n < 0 || n > AHEAD_MOST || !laid.has(i) || !isEither(what)) {
            return BAD;
        }
        trial.copy(now);
        trial.goHours(laid, n);
        return what == 0 ? trial.shades.at(i) : trial.seen(i);
    }

    public int asIf(int i, int s, int k) {
        if (!laid.hasPerson(i) || !isShade(s) || k < 0 || k > ROUTE_MOST) {
            return BAD;
        }
        int length = shortestRoute(i, s);
        if (length == NONE || k == 0) {
            return length;
        }
        return k <= length ? route.at(k - 1) : NONE;
    }

    public int soap(int s) {
        if (!isShade(s)) {
            return BAD;
        }
        int washings = 0;
        for (int i = 0; i < laid.items; i++) {
            if (laid.hasPerson(i)) {
                washings += washingsTo(s, now.shades.at(i), laid.lighterByWashing(i));
            }
        }
        return washings;
    }

    public int alike(int what) {
        if (!isEither(what)) {
            return BAD;
        }
        twos.clear();
        for (int a = 0; a < laid.items; a++) {
            for (int b = a + 1; b < laid.items; b++) {
                if (looksLike(a, b)) {
                    twos.add(a, b);
                }
            }
        }
        return twos.answer(what);
    }

    // ---- what was

    public int show(int i, int s) {
        if (!laid.has(i) || !isShade(s)) {
            return BAD;
        }
        return clues.add(i, s) ? clues.size() : FULL;
    }

    public int forget() {
        int many = clues.size();
        clues.clear();
        return many;
    }

    public int touched(int what) {
        if (!isEither(what)) {
            return BAD;
        }
        twos.clear();
        for (int a = 0; a < laid.items; a++) {
            for (int b = a + 1; b < laid.items; b++) {
                trial.copy(now);
                trial.meet(laid, a, b);
                if (clues.hold(trial)) {
                    twos.add(a, b);
                }
            }
        }
        return twos.answer(what);
    }

    public int order(int what) {
        if (!isEither(what)) {
            return BAD;
        }
        trial.begin(laid);
        if (what == 0) {
            return ordersThatShow(trial, laid, clues, 0, 0);
        }
        for (int t = 0; t < laid.touches && t < ORDERED_MOST; t++) {
            trial.meet(laid, laid.touchFirst.at(t), laid.touchSecond.at(t));
        }
        return clues.hold(trial) ? 1 : 0;
    }

    public int box() {
        int bits = 0;
        for (int i = 0; i < laid.items; i++) {
            trial.begin(laid);
            trial.shades.fill(0);
            trial.shades.put(i, DARKEST);
            trial.goHours(laid, Math.min(now.gone, AHEAD_MOST));
            if (clues.hold(trial)) {
                bits |= 1 << i;
            }
        }
        return bits;
    }

    public int from(int i, int h) {
        if (!laid.has(i) || !isHour(h)) {
            return BAD;
        }
        // Backward in time: whoever touches one of the found ones ahead of that is found, too.
        int bits = 1 << i;
        for (int hour = h; hour >= 0; hour--) {
            for (int t = laid.touches - 1; t >= 0; t--) {
                int both = 1 << laid.touchFirst.at(t) | 1 << laid.touchSecond.at(t);
                if (laid.touchHours.at(t) == hour && (bits & both) != 0) {
                    bits |= both;
                }
            }
        }
        return bits;
    }

    public int led(int a, int b, int h) {
        if (!laid.has(a) || !laid.has(b) || !isHour(h)) {
            return BAD;
        }
        links.fill(NONE);
        links.put(a, 0);
        for (int hour = 0; hour <= h; hour++) {
            for (int t = 0; t < laid.touches; t++) {
                if (laid.touchHours.at(t) == hour) {
                    link(laid.touchFirst.at(t), laid.touchSecond.at(t));
                }
            }
        }
        return links.at(b);
    }

    // ---- dogs

    public int dogs(int z, int n, int what) {
        if (z < 0 || z > DOGS_MOST || n < 1 || n > AHEAD_MOST || !isEither(what)) {
            return BAD;
        }
        trial.copy(now);
        for (int k = 0; k < n; k++) {
            dogTouch(draw(z, k));
            trial.goHours(laid, 1);
        }
        return what == 0 ? trial.shaded(laid) : trial.darkestPerson(laid);
    }

    public int keep() {
        if (houses.isFull()) {
            return FULL;
        }
        houses.push(now);
        return houses.height();
    }

    public int back() {
        if (!houses.popInto(now)) {
            return NO;
        }
        past.clear();
        return houses.height();
    }

    public int count(int what) {
        switch (what) {
            case 0: return laid.items;
            case 1: return laid.people();
            case 2: return laid.touches;
            case 3: return now.hourNow;
            case 4: return now.gone;
            case 5: return now.shaded(laid);
            case 6: return clues.size();
            case 7: return past.height();
            case 8: return houses.height();
            case 9: return page.length();
            case 10: return laid.supper;
            default: return BAD;
        }
    }

    private static boolean isEither(int what) {
        return what == 0 || what == 1;
    }

    private static boolean isHour(int h) {
        return h >= 0 && h < HOURS_OF_DAY;
    }

    private static boolean isShade(int s) {
        return s >= 0 && s <= DARKEST;
    }

    /** The draft and the laid house change places, so that a faulty TEXT leaves the laid one as it is. */
    private boolean layPage() {
        if (page.readInto(draft) != NONE || draft.people() == 0) {
            return false;
        }
        House old = laid;
        laid = draft;
        draft = old;
        now.begin(laid);
        clues.clear();
        past.clear();
        houses.clear();
        return true;
    }

    private boolean looksLike(int a, int b) {
        return laid.hasPerson(a) && laid.hasPerson(b) && now.seen(a) != 0 && now.seen(a) == now.seen(b);
    }

    private static int washingsTo(int goal, int shade, int step) {
        if (shade <= goal || step <= 0) {
            return 0;
        }
        return (shade - goal + step - 1) / step;
    }

    /** Leaves the touches in the route. */
    private int shortestRoute(int i, int s) {
        for (int length = 0; length <= ROUTE_MOST; length++) {
            trial.copy(now);
            if (routeLeads(trial, laid, route, i, s, 0, length)) {
                return length;
            }
        }
        return NONE;
    }

    private static boolean routeLeads(Stand stand, House house, Row route, int i, int s, int depth, int length) {
        if (depth >= length || depth >= ROUTE_MOST) {
            return stand.shades.at(i) == s;
        }
        int own = stand.shades.at(i);
        for (int other = 0; other < house.items; other++) {
            if (other == i) {
                continue;
            }
            int others = stand.shades.at(other);
            stand.meet(house, i, other);
            route.put(depth, other);
            if (routeLeads(stand, house, route, i, s, depth + 1, length)) {
                return true;
            }
            stand.shades.put(i, own);
            stand.shades.put(other, others);
        }
        return false;
    }

    private static int ordersThatShow(Stand stand, House house, Clues clues, int done, int depth) {
        if (depth >= house.touches || depth >= ORDERED_MOST) {
            return clues.hold(stand) ? 1 : 0;
        }
        int many = 0;
        for (int t = 0; t < house.touches && t < ORDERED_MOST; t++) {
            if ((done & 1 << t) != 0) {
                continue;
            }
            int a = house.touchFirst.at(t);
            int b = house.touchSecond.at(t);
            int shadeA = stand.shades.at(a);
            int shadeB = stand.shades.at(b);
            stand.meet(house, a, b);
            many += ordersThatShow(stand, house, clues, done | 1 << t, depth + 1);
            stand.shades.put(a, shadeA);
            stand.shades.put(b, shadeB);
        }
        return many;
    }

    private void link(int a, int b) {
        int stepsA = links.at(a);
        int stepsB = links.at(b);
        if (stepsA != NONE && (stepsB == NONE || stepsB > stepsA + 1)) {
            links.put(b, stepsA + 1);
        }
        if (stepsB != NONE && (stepsA == NONE || stepsA > stepsB + 1)) {
            links.put(a, stepsB + 1);
        }
    }

    private static int draw(int z, int k) {
        long x = 7919L * z + 6151L * k + 1;
        return (int) (x * x % 65521 / 8);
    }

    private void dogTouch(int drawn) {
        if (laid.items <= 0) {
            return;
        }
        int a = drawn % laid.items;
        int b = drawn / 8 % laid.items;
        if (a != b) {
            trial.meet(laid, a, b);
        }
    }

    /** Numbers of a fixed length: a place outside reads as 0 and takes nothing, so that no index can fail. */
    private static final class Row {
        private final int[] cells;

        Row(int size) {
            cells = new int[size > 0 ? size : 0];
        }

        int at(int place) {
            return place >= 0 && place < cells.length ? cells[place] : 0;
        }

        void put(int place, int value) {
            if (place >= 0 && place < cells.length) {
                cells[place] = value;
            }
        }

        void fill(int value) {
            for (int p = 0; p < cells.length; p++) {
                cells[p] = value;
            }
        }

        void copy(Row other) {
            for (int p = 0; p < cells.length; p++) {
                cells[p] = other.at(p);
            }
        }

        int times(int value, int length) {
            int many = 0;
            for (int p = 0; p < length && p < cells.length; p++) {
                if (cells[p] == value) {
                    many++;
                }
            }
            return many;
        }
    }

    /** THE TEXT. */
    private static final class Page {
        private final Row letters = new Row(LETTERS_MOST);
        private final Row numbers = new Row(NUMBERS_MOST);
        private int length;
        private int found;

        int length() {
            return length;
        }

        boolean add(int letter) {
            if (length >= LETTERS_MOST) {
                return false;
            }
            letters.put(length, letter);
            length++;
            return true;
        }

        void clear() {
            length = 0;
        }

        /** Answers the place of the first entry that is not so, NONE without. */
        int readInto(House house) {
            house.clear();
            int place = 0;
            for (int n = 0; n < LETTERS_MOST && place < length; n++) {
                int next = readNumbers(place + 1);
                if (next == NONE || !house.add(letters.at(place), found, numbers)) {
                    return place;
                }
                place = next;
            }
            return NONE;
        }

        /** Answers the place behind the ; that ends them, NONE if they are not so. */
        private int readNumbers(int start) {
            int place = start;
            for (int n = 0; n < NUMBERS_MOST; n++) {
                int figures = figuresAt(place);
                if (figures == 0) {
                    return NONE;
                }
                numbers.put(n, valueOf(place, figures));
                found = n + 1;
                place += figures + 1;
                int end = letterAt(place - 1);
                if (end == ';') {
                    return place;
                }
                if (end != ',') {
                    return NONE;
                }
            }
            return NONE;
        }

        private int figuresAt(int place) {
            int many = 0;
            while (many < FIGURES_MOST && isFigure(letterAt(place + many))) {
                many++;
            }
            return many;
        }

        private int valueOf(int place, int figures) {
            int value = 0;
            for (int p = 0; p < figures; p++) {
                value = 10 * value + letterAt(place + p) - '0';
            }
            return value;
        }

        private static boolean isFigure(int letter) {
            return letter >= '0' && letter <= '9';
        }

        /** The row keeps wiped letters; they must not be read. */
        private int letterAt(int place) {
            return place < length ? letters.at(place) : 0;
        }
    }

    /** What a TEXT tells. */
    private static final class House {
        final Row kinds = new Row(ITEMS_MOST);
        final Row shades = new Row(ITEMS_MOST);
        final Row touchHours = new Row(TOUCHES_MOST);
        final Row touchFirst = new Row(TOUCHES_MOST);
        final Row touchSecond = new Row(TOUCHES_MOST);
        final Row washHours = new Row(WASHINGS_MOST);
        final Row washWho = new Row(WASHINGS_MOST);
        int items;
        int touches;
        int washings;
        int supper = SUPPER_UNTOLD;

        void clear() {
            items = 0;
            touches = 0;
            washings = 0;
            supper = SUPPER_UNTOLD;
        }

        boolean has(int i) {
            return i >= 0 && i < items;
        }

        boolean hasPerson(int i) {
            return has(i) && kinds.at(i) != CUP && kinds.at(i) != DAMP;
        }

        int people() {
            int many = 0;
            for (int i = 0; i < items; i++) {
                if (hasPerson(i)) {
                    many++;
                }
            }
            return many;
        }

        int lighterByWashing(int i) {
            return kinds.at(i) == LAUNDRESS ? 4 : 2;
        }

        boolean add(int letter, int found, Row numbers) {
            int first = numbers.at(0);
            int second = numbers.at(1);
            switch (letter) {
                case 'i': return found == 2 && addItem(first, second);
                case 't': return found == 3 && addTouch(first, second, numbers.at(2));
                case 'w': return found == 2 && addWashing(first, second);
                case 's': return found == 1 && setSupper(first);
                default: return false;
            }
        }

        private boolean addItem(int kind, int shade) {
            if (items >= ITEMS_MOST || kind < HAND || kind > DUKE || !isShade(shade)) {
                return false;
            }
            kinds.put(items, kind);
            shades.put(items, shade);
            items++;
            return true;
        }

        private boolean addTouch(int h, int a, int b) {
            if (touches >= TOUCHES_MOST || !isHour(h) || !has(a) || !has(b) || a == b) {
                return false;
            }
            touchHours.put(touches, h);
            touchFirst.put(touches, a);
            touchSecond.put(touches, b);
            touches++;
            return true;
        }

        private boolean addWashing(int h, int a) {
            if (washings >= WASHINGS_MOST || !isHour(h) || !hasPerson(a)) {
                return false;
            }
            washHours.put(washings, h);
            washWho.put(washings, a);
            washings++;
            return true;
        }

        private boolean setSupper(int h) {
            if (!isHour(h)) {
                return false;
            }
            supper = h;
            return true;
        }
    }

    /** How all stands at one time. */
    private static final class Stand {
        final Row shades = new Row(ITEMS_MOST);
        int powdered;
        int hourNow;
        int gone;

        void copy(Stand other) {
            shades.copy(other.shades);
            powdered = other.powdered;
            hourNow = other.hourNow;
            gone = other.gone;
        }

        void begin(House house) {
            shades.copy(house.shades);
            powdered = 0;
            hourNow = 0;
            gone = 0;
        }

        boolean isPowdered(int i) {
            return (powdered & 1 << i) != 0;
        }

        int seen(int i) {
            return isPowdered(i) ? 0 : shades.at(i);
        }

        int shaded(House house) {
            return house.items - shades.times(0, house.items);
        }

        int darkestPerson(House house) {
            int darkest = 0;
            for (int i = 0; i < house.items; i++) {
                if (house.hasPerson(i)) {
                    darkest = Math.max(darkest, shades.at(i));
                }
            }
            return darkest;
        }

        /** Answers by how many SHADES both are darker together. */
        int meet(House house, int a, int b) {
            int givenByA = given(house.kinds.at(a), shades.at(a));
            int givenByB = given(house.kinds.at(b), shades.at(b));
            powdered &= ~(1 << a | 1 << b);
            return darken(house.kinds.at(a), a, givenByB) + darken(house.kinds.at(b), b, givenByA);
        }

        private static int given(int kind, int shade) {
            if (kind == DUKE) {
                return DUKE_GIVES;
            }
            return Math.max(0, kind == GLOVE ? shade - 2 : shade - 1);
        }

        private int darken(int kind, int i, int shade) {
            if (kind == DUKE) {
                return 0;
            }
            int had = shades.at(i);
            int has = Math.max(had, kind == GLOVE ? shade - 1 : shade);
            shades.put(i, has);
            return has - had;
        }

        void rinse(House house, int a) {
            lighten(a, house.lighterByWashing(a));
        }

        private void lighten(int i, int by) {
            shades.put(i, Math.max(0, shades.at(i) - by));
        }

        void goHours(House house, int n) {
            for (int k = 0; k < n; k++) {
                goHour(house);
            }
        }

        private void goHour(House house) {
            for (int t = 0; t < house.touches; t++) {
                if (house.touchHours.at(t) == hourNow) {
                    meet(house, house.touchFirst.at(t), house.touchSecond.at(t));
                }
            }
            for (int w = 0; w < house.washings; w++) {
                if (house.washHours.at(w) == hourNow) {
                    rinse(house, house.washWho.at(w));
                }
            }
            fade(house);
            if (hourNow == house.supper) {
                powdered = 0;
            }
            hourNow = (hourNow + 1) % HOURS_OF_DAY;
            gone++;
        }

        private void fade(House house) {
            boolean peopleFade = hourNow % 3 == 2;
            boolean cupsFade = hourNow % 6 == 5;
            for (int i = 0; i < house.items; i++) {
                if (house.hasPerson(i) ? peopleFade : cupsFade && house.kinds.at(i) == CUP) {
                    lighten(i, 1);
                }
            }
        }
    }

    /** Stands one above the other; a full pile that gets one more loses its lowest. */
    private static final class Pile {
        private final Stand[] stands;
        private int height;

        Pile(int most) {
            stands = new Stand[most > 0 ? most : 0];
            for (int p = 0; p < stands.length; p++) {
                stands[p] = new Stand();
            }
        }

        int height() {
            return height;
        }

        boolean isFull() {
            return height >= stands.length;
        }

        void clear() {
            height = 0;
        }

        void push(Stand stand) {
            if (isFull()) {
                dropLowest();
            }
            if (height >= 0 && height < stands.length && stands[height] != null) {
                stands[height].copy(stand);
                height++;
            }
        }

        boolean popInto(Stand stand) {
            int top = height - 1;
            if (top < 0 || top >= stands.length || stands[top] == null) {
                return false;
            }
            stand.copy(stands[top]);
            height = top;
            return true;
        }

        /** The lowest becomes the highest, to be written over: no new one is made. */
        private void dropLowest() {
            if (stands.length == 0) {
                return;
            }
            Stand lowest = stands[0];
            for (int p = 1; p < stands.length; p++) {
                stands[p - 1] = stands[p];
            }
            stands[stands.length - 1] = lowest;
            height = stands.length - 1;
        }
    }

    /** What is SHOWN. */
    private static final class Clues {
        private final Row items = new Row(SHOWN_MOST);
        private final Row shades = new Row(SHOWN_MOST);
        private int size;

        int size() {
            return size;
        }

        void clear() {
            size = 0;
        }

        boolean add(int i, int s) {
            if (size >= SHOWN_MOST) {
                return false;
            }
            items.put(size, i);
            shades.put(size, s);
            size++;
            return true;
        }

        boolean hold(Stand stand) {
            for (int c = 0; c < size; c++) {
                if (stand.shades.at(items.at(c)) != shades.at(c)) {
                    return false;
                }
            }
            return true;
        }
    }

    /** Twos that were found, the lower number first, in their order. */
    private static final class Twos {
        private int many;
        private int first;

        void clear() {
            many = 0;
            first = NONE;
        }

        void add(int a, int b) {
            if (many == 0) {
                first = 10 * a + b;
            }
            many++;
        }

        int answer(int what) {
            return what == 0 ? many : first;
        }
    }
}
