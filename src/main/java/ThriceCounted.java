/**
 * Bundles of notes counted several times: what each truly holds by all counts together, whom to believe, how to count
 * on, and why a till is off. ../shared/DOC.md says what each call answers.
 */
public final class ThriceCounted {
    public static final int NONE = -1, BAD = -2, NO = -3, FULL = -4;

    private static final int CLERKS = 5, BUNDLES = 5, COUNTS = 8, CAUSES = 6, UNDOS = 8, IMAGES = 2, TEXT = 150;
    private static final int LOWEST = 90, HIGHEST = 110, LEAST_TOLD = 80, MOST_TOLD = 120, MOST_TRUST = 10;
    private static final int SLIPS = 20, WAYS = 6, ONES = 0, FIVES = 1, WEIGHED = 2;
    private static final int LOW = 0, HIGH = 1, BAND = 2, SIGNER = 3;
    private static final int BUNDLE = 0, WAY = 1, CLERK = 2, TOLD = 3;
    private static final int OFF = 0, ODDS = 1, MINUTES = 2, FOUND = 3;
    private static final int MOST_OFF = 198;

    private final Ones[] ways = {new Ones(), new Fives(), new Weighed(), new Height(), new Talked(), new Skipped()};
    private final Bank bank = new Bank();
    private final Bank[] images = {new Bank(), new Bank()};
    private final boolean[] kept = new boolean[IMAGES];
    private final Scale scale = new Scale();
    private final Reader reader = new Reader();
    private final Fraction fraction = new Fraction();
    private final byte[] text = new byte[TEXT];
    private int typed = 0;
    private final int[] refused = new int[3];
    private final int[] truths = new int[BUNDLES];
    private final int[] order = new int[CAUSES];

    public ThriceCounted() {
    }

    // ---- a bank

    public int bank() {
        int before = bank.bundles.size();
        bank.empty();
        typed = 0;
        fraction.become(0, 1);
        for (int i = 0; i < kept.length; i++) {
            kept[i] = false;
        }
        for (int i = 0; i < refused.length; i++) {
            refused[i] = 0;
        }
        return before;
    }

    public int clerk(int trust) {
        if (!within(trust, 0, MOST_TRUST)) {
            return refuse(BAD);
        }
        if (bank.clerks.isFull()) {
            return refuse(FULL);
        }
        return bank.addClerk(trust);
    }

    public int bundle(int low, int high) {
        if (!within(low, LOWEST, HIGHEST) || !within(high, low, HIGHEST)) {
            return refuse(BAD);
        }
        if (bank.bundles.isFull()) {
            return refuse(FULL);
        }
        return bank.addBundle(low, high);
    }

    public int band(int bundle, int n, int clerk) {
        if (!bank.bundles.has(bundle) || !within(n, LOWEST, HIGHEST) || !bank.clerks.has(clerk)) {
            return refuse(BAD);
        }
        int before = bank.bundles.get(bundle, BAND);
        bank.putBand(bundle, n, clerk);
        return before;
    }

    public int tell(int bundle, int way, int clerk, int told) {
        if (!bank.bundles.has(bundle) || !isWay(way) || !bank.clerks.has(clerk)
                || !within(told, LEAST_TOLD, MOST_TOLD)) {
            return refuse(BAD);
        }
        if (bank.counts.isFull()) {
            return refuse(FULL);
        }
        bank.keepCounts();
        return bank.addCount(bundle, way, clerk, told);
    }

    public int back(int count) {
        if (!bank.counts.has(count)) {
            return refuse(BAD);
        }
        bank.keepCounts();
        bank.counts.remove(count);
        return bank.counts.size();
    }

    public int undo() {
        if (!bank.restoreCounts()) {
            return refuse(NO);
        }
        return bank.counts.size();
    }

    public int type(int c) {
        if (!within(c, 0, 127)) {
            return refuse(BAD);
        }
        if (typed < 0 || typed >= text.length) {
            return refuse(FULL);
        }
        text[typed] = (byte) c;
        typed++;
        return typed;
    }

    public int clear() {
        int before = typed;
        typed = 0;
        return before;
    }

    public int read() {
        if (!reader.parse(text, typed)) {
            return -10 - reader.fault();
        }
        bank.copyFrom(reader.draft);
        return reader.items();
    }

    // ---- ways, counts

    public int way(int way, int what) {
        if (!isWay(way) || !within(what, 0, SLIPS + 1)) {
            return refuseAs(BAD, -100);
        }
        if (what < SLIPS) {
            return ways[way].slip(what);
        }
        return what == SLIPS ? ways[way].minutes() : ways[way].oddsOff(0);
    }

    public int odds(int way, int v) {
        if (!isWay(way) || !within(v, -40, 40)) {
            return refuse(BAD);
        }
        return ways[way].oddsOff(v);
    }

    public int of(int count, int what) {
        if (!bank.counts.has(count) || !within(what, BUNDLE, TOLD)) {
            return refuse(BAD);
        }
        return bank.counts.get(count, what);
    }

    public int about(int bundle, int what) {
        if (!bank.bundles.has(bundle) || !within(what, LOW, SIGNER + 1)) {
            return refuseAs(BAD, -10);
        }
        if (what <= SIGNER) {
            return bank.bundles.get(bundle, what);
        }
        return bank.countsOf(bundle);
    }

    // ---- what it is truly

    public int likely(int bundle, int n) {
        if (!bank.bundles.has(bundle) || !within(n, LOWEST, HIGHEST)) {
            return refuse(BAD);
        }
        scale.weigh(bank, bundle, ways);
        if (scale.total() == 0) {
            return refuse(NO);
        }
        fraction.become(scale.weightOf(n), scale.total());
        return 1;
    }

    public int truly(int bundle, int what) {
        if (!bank.bundles.has(bundle) || !within(what, 0, 1)) {
            return refuse(BAD);
        }
        scale.weigh(bank, bundle, ways);
        return what == 0 ? scale.heaviest() : scale.possible();
    }

    public int agreed(int bundle) {
        if (!bank.bundles.has(bundle)) {
            return refuse(BAD);
        }
        int last = NONE;
        for (int i = 0; i < bank.counts.size(); i++) {
            if (bank.counts.get(i, BUNDLE) != bundle) {
                continue;
            }
            int told = bank.counts.get(i, TOLD);
            if (told == last) {
                return told;
            }
            last = told;
        }
        return NONE;
    }

    public int believe() {
        if (bank.counts.size() == 0) {
            return NONE;
        }
        findTruths();
        int best = 0;
        for (int i = 1; i < bank.clerks.size(); i++) {
            if (rightLessWrong(i) > rightLessWrong(best)) {
                best = i;
            }
        }
        return best;
    }

    public int wrong(int count) {
        if (!bank.counts.has(count)) {
            return refuse(BAD);
        }
        scale.weigh(bank, bank.counts.get(count, BUNDLE), ways);
        if (scale.total() == 0) {
            return refuse(NO);
        }
        fraction.become(scale.total() - scale.weightOf(bank.counts.get(count, TOLD)), scale.total());
        return 1;
    }

    public int enough(int bundle, int way, int s) {
        if (!bank.bundles.has(bundle) || !isWay(way) || !within(s, 1, 9)) {
            return refuse(BAD);
        }
        scale.weigh(bank, bundle, ways);
        int now = scale.heaviest();
        if (now == NONE) {
            return NONE;
        }
        for (int k = 0; k <= 3; k++) {
            if (10 * scale.weightOf(now) >= s * scale.total()) {
                return k;
            }
            weighMore(way, now, 1);
        }
        return NONE;
    }

    public int plan(int bundle, int m) {
        if (!bank.bundles.has(bundle) || !within(m, 0, 30)) {
            return refuse(BAD);
        }
        scale.weigh(bank, bundle, ways);
        int now = scale.heaviest();
        if (now == NONE) {
            return refuse(NO);
        }
        int best = 0;
        long above = scale.weightOf(now);
        long below = scale.total();
        for (int plan = 1; plan <= 300; plan++) {
            if (!canDo(plan, m)) {
                continue;
            }
            weighPlan(bundle, now, plan);
            if (Fraction.isMore(scale.weightOf(now), scale.total(), above, below)) {
                best = plan;
                above = scale.weightOf(now);
                below = scale.total();
            }
        }
        fraction.become(above, below);
        return best;
    }

    public int open() {
        findTruths();
        int bits = 0;
        for (int i = 0; i < bank.bundles.size() && i < truths.length; i++) {
            int said = bank.bundles.get(i, BAND);
            if (said != NONE && truths[i] != NONE && truths[i] != said) {
                bits |= 1 << i;
            }
        }
        return bits;
    }

    public int sum() {
        findTruths();
        int all = 0;
        for (int i = 0; i < bank.bundles.size() && i < truths.length; i++) {
            if (truths[i] == NONE) {
                return NONE;
            }
            all += truths[i];
        }
        return all;
    }

    // ---- a till that is off

    public int cause(int n, int o, int w, int m) {
        if (!within(n, -99, 99) || !within(o, 1, 20) || !within(w, 0, 30) || !within(m, 0, 10)) {
            return refuse(BAD);
        }
        if (bank.causes.isFull()) {
            return refuse(FULL);
        }
        return bank.addCause(n, o, w, m);
    }

    public int forget() {
        int before = bank.causes.size();
        bank.causes.empty();
        return before;
    }

    public int why(int d, int what) {
        if (!within(d, -MOST_OFF, MOST_OFF) || !within(what, 0, 1)) {
            return refuse(BAD);
        }
        int found = 0;
        int best = NONE;
        int bestOdds = NONE;
        for (int i = 0; i < bank.causes.size(); i++) {
            for (int j = i; j < bank.causes.size(); j++) {
                if (offTogether(i, j) != d) {
                    continue;
                }
                found++;
                if (oddsTogether(i, j) > bestOdds) {
                    bestOdds = oddsTogether(i, j);
                    best = 10 * i + j;
                }
            }
        }
        return what == 0 ? found : best;
    }

    public int look(int d, int i) {
        if (!within(d, -MOST_OFF, MOST_OFF) || i < 0) {
            return refuseAs(BAD, -10);
        }
        int many = listCauses(d);
        if (i >= many || i >= order.length) {
            return -5;
        }
        sortForSearch(many);
        timeSearch(many);
        return order[i];
    }

    public int writeOff(int d, int p) {
        if (!within(d, -MOST_OFF, MOST_OFF) || !within(p, 0, 99)) {
            return refuse(BAD);
        }
        for (int i = 0; i < bank.causes.size(); i++) {
            int cost = 10 * p * bank.causes.get(i, MINUTES);
            if (bank.causes.get(i, OFF) == d && cost < Math.abs(d) * bank.causes.get(i, FOUND)) {
                return 0;
            }
        }
        return 1;
    }

    public int drawn(int way, int t, int n, int seed, int what) {
        if (!isWay(way) || !within(t, LEAST_TOLD, MOST_TOLD) || !within(n, 0, 60) || !within(seed, 0, 999999)
                || !within(what, 0, 2)) {
            return refuse(BAD);
        }
        long x = seed;
        int right = 0;
        int least = NONE;
        int greatest = NONE;
        for (int i = 0; i < n; i++) {
            x = (x * 1103515245L + 12345L) % 2147483648L;
            int told = t + ways[way].slip((int) (x / 65536 % SLIPS));
            right += told == t ? 1 : 0;
            least = i == 0 ? told : Math.min(least, told);
            greatest = i == 0 ? told : Math.max(greatest, told);
        }
        if (what == 0) {
            return right;
        }
        return what == 1 ? least : greatest;
    }

    // ---- what there is

    public long part(int what) {
        if (!within(what, 0, 1)) {
            return refuse(BAD);
        }
        return what == 0 ? fraction.above() : fraction.below();
    }

    public int image(int i) {
        if (!isImage(i)) {
            return refuse(BAD);
        }
        images[i].copyFrom(bank);
        kept[i] = true;
        return 1;
    }

    public int from(int i) {
        if (!isImage(i)) {
            return refuse(BAD);
        }
        if (!kept[i]) {
            return refuse(NO);
        }
        bank.copyFrom(images[i]);
        return 1;
    }

    public int status(int what) {
        if (what < 0 || what >= refused.length) {
            return refuseAs(BAD, -1);
        }
        return refused[what];
    }

    public int count(int what) {
        if (!within(what, 0, 5)) {
            return refuse(BAD);
        }
        return howMany(what);
    }

    public long digest() {
        long h = 937;
        for (int what = 0; what <= 5; what++) {
            h = 31 * h + howMany(what);
        }
        h = bank.clerks.mixInto(h);
        h = bank.bundles.mixInto(h);
        h = bank.counts.mixInto(h);
        h = bank.causes.mixInto(h);
        h = 31 * h + fraction.above();
        return 31 * h + fraction.below();
    }

    // ---- refusals and ranges

    private int refuse(int reason) {
        return refuseAs(reason, reason);
    }

    private int refuseAs(int reason, int answer) {
        int place = BAD - reason;
        if (place >= 0 && place < refused.length) {
            refused[place]++;
        }
        return answer;
    }

    private static boolean within(int number, int least, int most) {
        return number >= least && number <= most;
    }

    private boolean isWay(int way) {
        return way >= 0 && way < ways.length;
    }

    private boolean isImage(int i) {
        return i >= 0 && i < images.length && i < kept.length;
    }

    private int howMany(int what) {
        switch (what) {
            case 0:
                return bank.clerks.size();
            case 1:
                return bank.bundles.size();
            case 2:
                return bank.counts.size();
            case 3:
                return bank.causes.size();
            case 4:
                return bank.undos();
            default:
                return typed;
        }
    }

    // ---- helpers of what it is truly

    private void findTruths() {
        for (int i = 0; i < bank.bundles.size() && i < truths.length; i++) {
            scale.weigh(bank, i, ways);
            truths[i] = scale.heaviest();
        }
    }

    /** How many counts of a clerk told what findTruths found, less how many did not. */
    private int rightLessWrong(int clerk) {
        int score = 0;
        for (int i = 0; i < bank.counts.size(); i++) {
            int bundle = bank.counts.get(i, BUNDLE);
            if (bank.counts.get(i, CLERK) != clerk || bundle < 0 || bundle >= truths.length) {
                continue;
            }
            score += bank.counts.get(i, TOLD) == truths[bundle] ? 1 : -1;
        }
        return score;
    }

    /** A plan is written as 100 a, 10 f and g: is it three counts at most, in so many minutes? */
    private boolean canDo(int plan, int minutes) {
        int a = plan / 100;
        int f = plan / 10 % 10;
        int g = plan % 10;
        int takes = a * minutesOf(ONES) + f * minutesOf(FIVES) + g * minutesOf(WEIGHED);
        return a + f + g <= 3 && takes <= minutes;
    }

    private int minutesOf(int way) {
        return isWay(way) ? ways[way].minutes() : 0;
    }

    private void weighPlan(int bundle, int told, int plan) {
        scale.weigh(bank, bundle, ways);
        weighMore(ONES, told, plan / 100);
        weighMore(FIVES, told, plan / 10 % 10);
        weighMore(WEIGHED, told, plan % 10);
    }

    private void weighMore(int way, int told, int many) {
        if (isWay(way)) {
            scale.addCounts(ways[way], told, many);
        }
    }

    // ---- helpers of a till that is off

    private int offTogether(int i, int j) {
        int off = bank.causes.get(i, OFF);
        return i == j ? off : off + bank.causes.get(j, OFF);
    }

    private int oddsTogether(int i, int j) {
        int odds = bank.causes.get(i, ODDS);
        return i == j ? odds : odds * bank.causes.get(j, ODDS) / 20;
    }

    /** Puts the causes that are off by d into order, rising, and answers how many they are. */
    private int listCauses(int d) {
        int many = 0;
        for (int i = 0; i < bank.causes.size(); i++) {
            if (bank.causes.get(i, OFF) == d && many < order.length) {
                order[many] = i;
                many++;
            }
        }
        return many;
    }

    /**
     * The mean is a sum over pairs of causes, so an order is a best one just when each pair stands well in it. Taking
     * the first cause that stands well ahead of all that are left, again and again, gives the first of the best.
     */
    private void sortForSearch(int many) {
        for (int place = 0; place < many && place < order.length; place++) {
            int chosen = place;
            for (int i = place; i < many && i < order.length; i++) {
                if (standsAhead(i, place, many)) {
                    chosen = i;
                    break;
                }
            }
            int first = order[chosen];
            for (int i = chosen; i > place; i--) {
                order[i] = order[i - 1];
            }
            order[place] = first;
        }
    }

    private boolean standsAhead(int chosen, int place, int many) {
        if (chosen < 0 || chosen >= order.length) {
            return false;
        }
        int first = order[chosen];
        for (int i = place; i < many && i < order.length; i++) {
            int other = order[i];
            if (delay(first, other) > delay(other, first)) {
                return false;
            }
        }
        return true;
    }

    /** What looking for the first ahead of the second costs: its minutes, as often as the second would be found. */
    private int delay(int first, int second) {
        int minutes = bank.causes.get(first, MINUTES);
        return minutes * bank.causes.get(second, ODDS) * bank.causes.get(second, FOUND);
    }

    private void timeSearch(int many) {
        int all = 0;
        int odds = 0;
        for (int i = 0; i < many && i < order.length; i++) {
            all += bank.causes.get(order[i], MINUTES);
            odds += bank.causes.get(order[i], ODDS);
        }
        long above = 0;
        int until = 0;
        for (int i = 0; i < many && i < order.length; i++) {
            until += bank.causes.get(order[i], MINUTES);
            int found = bank.causes.get(order[i], FOUND);
            above += bank.causes.get(order[i], ODDS) * (found * until + (10 - found) * all);
        }
        fraction.become(above, 10L * odds);
    }

    // ---- ways of counting, kinds under one another

    private static class Ones {
        int slip(int k) {
            if (k == 0 || k == 1) {
                return -1;
            }
            return k == 2 ? 1 : 0;
        }

        int minutes() {
            return 5;
        }

        final int oddsOff(int v) {
            int odds = 0;
            for (int k = 0; k < SLIPS; k++) {
                if (slip(k) == v) {
                    odds++;
                }
            }
            return odds;
        }
    }

    private static final class Fives extends Ones {
        int slip(int k) {
            return k == 3 ? -5 : super.slip(k);
        }

        int minutes() {
            return super.minutes() - 2;
        }
    }

    private static class Weighed extends Ones {
        int slip(int k) {
            if (k < 3) {
                return -1;
            }
            if (k < 6) {
                return -2;
            }
            if (k < 9) {
                return 1;
            }
            return k < 12 ? 2 : 0;
        }

        int minutes() {
            return 1;
        }
    }

    private static final class Height extends Weighed {
        int slip(int k) {
            if (k == 12 || k == 13) {
                return -3;
            }
            return k == 14 || k == 15 ? 3 : super.slip(k);
        }
    }

    private static class Talked extends Ones {
        int slip(int k) {
            return super.slip(k / 2);
        }

        int minutes() {
            return super.minutes() + 2;
        }
    }

    private static final class Skipped extends Talked {
        int slip(int k) {
            return k >= 6 && k <= 8 ? -2 : super.slip(k);
        }
    }

    /** So many rows of numbers at most, as they come; all cells are made once. */
    private static final class Rows {
        private final int width;
        private final int limit;
        private final int[] cells;
        private int size = 0;

        Rows(int limit, int width) {
            this.limit = Math.max(0, limit);
            this.width = Math.max(0, width);
            this.cells = new int[this.limit * this.width];
        }

        int size() {
            return size;
        }

        boolean isFull() {
            return size >= limit;
        }

        boolean has(int row) {
            return row >= 0 && row < size;
        }

        private boolean hasCell(int row, int column) {
            return row >= 0 && row < size && column >= 0 && column < width && row * width + column < cells.length;
        }

        int get(int row, int column) {
            return hasCell(row, column) ? cells[row * width + column] : NONE;
        }

        void put(int row, int column, int value) {
            if (hasCell(row, column)) {
                cells[row * width + column] = value;
            }
        }

        /** One row more: its number. */
        int grow() {
            if (isFull()) {
                return FULL;
            }
            size++;
            return size - 1;
        }

        void remove(int row) {
            if (!has(row)) {
                return;
            }
            for (int i = row; i < size - 1; i++) {
                for (int column = 0; column < width; column++) {
                    put(i, column, get(i + 1, column));
                }
            }
            size--;
        }

        void empty() {
            size = 0;
        }

        /** For rows of the same limit and width. */
        void copyFrom(Rows other) {
            size = Math.min(limit, other.size);
            System.arraycopy(other.cells, 0, cells, 0, Math.min(cells.length, other.cells.length));
        }

        long mixInto(long h) {
            long mixed = h;
            for (int i = 0; i < size * width && i < cells.length; i++) {
                mixed = 31 * mixed + cells[i];
            }
            return mixed;
        }
    }

    /** Clerks, bundles, counts, causes, and the counts as they were: what an image keeps. */
    private static final class Bank {
        final Rows clerks = new Rows(CLERKS, 1);
        final Rows bundles = new Rows(BUNDLES, 4);
        final Rows counts = new Rows(COUNTS, 4);
        final Rows causes = new Rows(CAUSES, 4);
        private final Rows[] earlier = new Rows[UNDOS];
        private int undos = 0;

        Bank() {
            for (int i = 0; i < earlier.length; i++) {
                earlier[i] = new Rows(COUNTS, 4);
            }
        }

        int undos() {
            return undos;
        }

        void empty() {
            clerks.empty();
            bundles.empty();
            counts.empty();
            causes.empty();
            undos = 0;
        }

        void copyFrom(Bank other) {
            clerks.copyFrom(other.clerks);
            bundles.copyFrom(other.bundles);
            counts.copyFrom(other.counts);
            causes.copyFrom(other.causes);
            undos = Math.min(other.undos, earlier.length);
            for (int i = 0; i < undos && i < other.earlier.length; i++) {
                earlier[i].copyFrom(other.earlier[i]);
            }
        }

        int addClerk(int trust) {
            int clerk = clerks.grow();
            clerks.put(clerk, 0, trust);
            return clerk;
        }

        int addBundle(int low, int high) {
            int bundle = bundles.grow();
            bundles.put(bundle, LOW, low);
            bundles.put(bundle, HIGH, high);
            bundles.put(bundle, BAND, NONE);
            bundles.put(bundle, SIGNER, NONE);
            return bundle;
        }

        void putBand(int bundle, int n, int clerk) {
            bundles.put(bundle, BAND, n);
            bundles.put(bundle, SIGNER, clerk);
        }

        int addCount(int bundle, int way, int clerk, int told) {
            int count = counts.grow();
            counts.put(count, BUNDLE, bundle);
            counts.put(count, WAY, way);
            counts.put(count, CLERK, clerk);
            counts.put(count, TOLD, told);
            return count;
        }

        int addCause(int n, int o, int w, int m) {
            int cause = causes.grow();
            causes.put(cause, OFF, n);
            causes.put(cause, ODDS, o);
            causes.put(cause, MINUTES, w);
            causes.put(cause, FOUND, m);
            return cause;
        }

        int countsOf(int bundle) {
            int many = 0;
            for (int i = 0; i < counts.size(); i++) {
                if (counts.get(i, BUNDLE) == bundle) {
                    many++;
                }
            }
            return many;
        }

        /** Keeps the counts as they are, for an undo; where eight are kept the oldest gives its place. */
        void keepCounts() {
            if (undos >= earlier.length) {
                dropOldest();
            }
            if (undos >= 0 && undos < earlier.length) {
                earlier[undos].copyFrom(counts);
                undos++;
            }
        }

        private void dropOldest() {
            for (int i = 1; i < earlier.length; i++) {
                earlier[i - 1].copyFrom(earlier[i]);
            }
            undos = earlier.length - 1;
        }

        boolean restoreCounts() {
            if (undos <= 0 || undos > earlier.length) {
                return false;
            }
            undos--;
            counts.copyFrom(earlier[undos]);
            return true;
        }
    }

    /** What each number of notes weighs in one bundle. */
    private static final class Scale {
        private final long[] weights = new long[HIGHEST - LOWEST + 1];
        private final int[] chances = new int[HIGHEST - LOWEST + 1];

        void weigh(Bank bank, int bundle, Ones[] ways) {
            for (int i = 0; i < weights.length; i++) {
                weights[i] = firstWeight(bank, bundle, LOWEST + i);
            }
            for (int i = 0; i < bank.counts.size(); i++) {
                int way = bank.counts.get(i, WAY);
                if (bank.counts.get(i, BUNDLE) == bundle && way >= 0 && way < ways.length) {
                    addCounts(ways[way], bank.counts.get(i, TOLD), 1);
                }
            }
        }

        /** By the bundle's limits and its band alone. */
        private static long firstWeight(Bank bank, int bundle, int n) {
            int low = bank.bundles.get(bundle, LOW);
            int high = bank.bundles.get(bundle, HIGH);
            int said = bank.bundles.get(bundle, BAND);
            if (n < low || n > high) {
                return 0;
            }
            if (said == NONE || said < low || said > high || high == low) {
                return 1;
            }
            int trust = bank.clerks.get(bank.bundles.get(bundle, SIGNER), 0);
            return n == said ? trust * (high - low) : MOST_TRUST - trust;
        }

        /** As many counts more, each telling the same. */
        void addCounts(Ones way, int told, int many) {
            for (int i = 0; i < chances.length; i++) {
                chances[i] = 0;
            }
            for (int k = 0; k < SLIPS; k++) {
                int place = told - way.slip(k) - LOWEST;
                if (place >= 0 && place < chances.length) {
                    chances[place]++;
                }
            }
            for (int time = 0; time < many; time++) {
                for (int i = 0; i < weights.length && i < chances.length; i++) {
                    weights[i] *= chances[i];
                }
            }
        }

        long weightOf(int n) {
            int place = n - LOWEST;
            return place >= 0 && place < weights.length ? weights[place] : 0;
        }

        long total() {
            long all = 0;
            for (int i = 0; i < weights.length; i++) {
                all += weights[i];
            }
            return all;
        }

        int heaviest() {
            int best = NONE;
            long most = 0;
            for (int i = 0; i < weights.length; i++) {
                if (weights[i] > most) {
                    most = weights[i];
                    best = LOWEST + i;
                }
            }
            return best;
        }

        int possible() {
            int many = 0;
            for (int i = 0; i < weights.length; i++) {
                if (weights[i] > 0) {
                    many++;
                }
            }
            return many;
        }
    }

    /** In lowest terms, never below 0. */
    private static final class Fraction {
        // Two longs are divided down to 0 in some 92 steps at most.
        private static final int STEPS = 100;

        private long above = 0;
        private long below = 1;

        long above() {
            return above;
        }

        long below() {
            return below;
        }

        void become(long newAbove, long newBelow) {
            long divisor = commonDivisor(newAbove, newBelow);
            if (divisor <= 0 || newBelow <= 0) {
                return;
            }
            above = newAbove / divisor;
            below = newBelow / divisor;
        }

        private static long commonDivisor(long one, long other) {
            long a = one;
            long b = other;
            for (int step = 0; step < STEPS && b != 0; step++) {
                long left = a % b;
                a = b;
                b = left;
            }
            return a;
        }

        /** Whether a by b is more than c by d; products may be too great for a long, so it divides step by step. */
        static boolean isMore(long a, long b, long c, long d) {
            long above = a;
            long below = b;
            long thanAbove = c;
            long thanBelow = d;
            for (int step = 0; step < STEPS && below > 0 && thanBelow > 0; step++) {
                long whole = above / below;
                long thanWhole = thanAbove / thanBelow;
                if (whole != thanWhole) {
                    return whole > thanWhole;
                }
                long left = above % below;
                long thanLeft = thanAbove % thanBelow;
                if (left == 0 || thanLeft == 0) {
                    return left > thanLeft;
                }
                // left by below is more than the other just when its inverse is less, so the sides change.
                above = thanBelow;
                thanAbove = below;
                below = thanLeft;
                thanBelow = left;
            }
            return false;
        }
    }

    /** Reads a bank out of a text into a draft; where it can not, the fault is where the token at hand begins. */
    private static final class Reader {
        private static final int END = 0, WORD = 1, NUMBER = 2, STOP = 3, STRANGE = 4;

        final Bank draft = new Bank();
        private byte[] text = new byte[0];
        private int length = 0;
        private int place = 0;
        private int kind = END;
        private int start = 0;
        private int value = 0;
        private int items = 0;
        private boolean faulty = false;

        int fault() {
            return start;
        }

        int items() {
            return items;
        }

        boolean parse(byte[] newText, int newLength) {
            text = newText;
            length = Math.max(0, Math.min(newLength, newText.length));
            place = 0;
            items = 0;
            faulty = false;
            draft.empty();
            step();
            if (!isWord("bank")) {
                return false;
            }
            step();
            if (!endItem()) {
                return false;
            }
            for (int i = 0; i < length && kind != END; i++) {
                if (!item() || !endItem()) {
                    return false;
                }
            }
            return kind == END;
        }

        private boolean endItem() {
            if (kind != STOP) {
                return false;
            }
            step();
            items++;
            return true;
        }

        private boolean item() {
            if (isWord("clerk")) {
                return !draft.clerks.isFull() && clerkItem();
            }
            if (isWord("bundle")) {
                return !draft.bundles.isFull() && bundleItem();
            }
            if (isWord("band")) {
                return bandItem();
            }
            return isWord("count") && !draft.counts.isFull() && countItem();
        }

        private boolean clerkItem() {
            step();
            int trust = number(0, MOST_TRUST);
            if (!faulty) {
                draft.addClerk(trust);
            }
            return !faulty;
        }

        private boolean bundleItem() {
            step();
            int low = number(LOWEST, HIGHEST);
            int high = number(low, HIGHEST);
            if (!faulty) {
                draft.addBundle(low, high);
            }
            return !faulty;
        }

        private boolean bandItem() {
            step();
            int bundle = number(0, draft.bundles.size() - 1);
            int n = number(LOWEST, HIGHEST);
            int clerk = number(0, draft.clerks.size() - 1);
            if (!faulty) {
                draft.putBand(bundle, n, clerk);
            }
            return !faulty;
        }

        private boolean countItem() {
            step();
            int bundle = number(0, draft.bundles.size() - 1);
            int way = number(0, WAYS - 1);
            int clerk = number(0, draft.clerks.size() - 1);
            int told = number(LEAST_TOLD, MOST_TOLD);
            if (!faulty) {
                draft.addCount(bundle, way, clerk, told);
            }
            return !faulty;
        }

        /** Takes a number of that range; behind a faulty one none is taken, so that its token stays at hand. */
        private int number(int least, int most) {
            if (faulty || kind != NUMBER || value < least || value > most) {
                faulty = true;
                return NONE;
            }
            int taken = value;
            step();
            return taken;
        }

        private boolean isWord(String word) {
            if (kind != WORD || place - start != word.length()) {
                return false;
            }
            for (int i = 0; i < word.length(); i++) {
                if (at(start + i) != word.charAt(i)) {
                    return false;
                }
            }
            return true;
        }

        private int at(int i) {
            return i >= 0 && i < length && i < text.length ? text[i] : NONE;
        }

        private static boolean isLetter(int c) {
            return c >= 'a' && c <= 'z';
        }

        private static boolean isFigure(int c) {
            return c >= '0' && c <= '9';
        }

        /** Goes on to the next token. */
        private void step() {
            while (place < length && at(place) == ' ') {
                place++;
            }
            start = place;
            int c = at(place);
            if (c == NONE) {
                kind = END;
            } else if (isLetter(c)) {
                stepOverWord();
            } else if (isFigure(c)) {
                stepOverNumber();
            } else {
                kind = c == ';' ? STOP : STRANGE;
                place++;
            }
        }

        private void stepOverWord() {
            kind = WORD;
            while (place < length && isLetter(at(place))) {
                place++;
            }
        }

        private void stepOverNumber() {
            value = 0;
            while (place < length && isFigure(at(place))) {
                // A fourth figure makes it no number; cut, so that no length of it is too great for an int.
                value = Math.min(1000, value) * 10 + at(place) - '0';
                place++;
            }
            kind = place - start <= 3 ? NUMBER : STRANGE;
        }
    }
}
