import java.math.BigInteger;
import java.util.ArrayList;
import java.util.Arrays;
import java.util.List;
import java.util.regex.Matcher;
import java.util.regex.Pattern;

/**
 * The document once more, slowly: lists, big numbers, every order tried. It is written apart from the class, so that
 * runs of calls on both can be compared.
 */
final class Model {
    /** All that an image keeps. */
    private static final class Books {
        List<Integer> trust = new ArrayList<>();
        List<int[]> bundles = new ArrayList<>();
        List<int[]> counts = new ArrayList<>();
        List<int[]> causes = new ArrayList<>();
        List<List<int[]>> earlier = new ArrayList<>();

        Books copy() {
            Books other = new Books();
            other.trust.addAll(trust);
            for (int[] bundle : bundles) {
                other.bundles.add(bundle.clone());
            }
            other.counts.addAll(counts);
            other.causes.addAll(causes);
            for (List<int[]> counted : earlier) {
                other.earlier.add(new ArrayList<>(counted));
            }
            return other;
        }
    }

    private Books books = new Books();
    private Books[] images = new Books[2];
    private String text = "";
    private BigInteger above = BigInteger.ZERO;
    private BigInteger below = BigInteger.ONE;
    private int[] status = new int[3];

    private int refused(int reason, int answer) {
        status[reason]++;
        return answer;
    }

    private int bad() {
        return refused(0, -2);
    }

    private static boolean in(int v, int least, int most) {
        return v >= least && v <= most;
    }

    private boolean noBundle(int b) {
        return !in(b, 0, books.bundles.size() - 1);
    }

    private boolean noClerk(int c) {
        return !in(c, 0, books.trust.size() - 1);
    }

    private boolean noCount(int c) {
        return !in(c, 0, books.counts.size() - 1);
    }

    long call(String name, int[] a) {
        switch (name) {
            case "bank": return bank();
            case "clerk": return clerk(a[0]);
            case "bundle": return bundle(a[0], a[1]);
            case "band": return band(a[0], a[1], a[2]);
            case "tell": return tell(a[0], a[1], a[2], a[3]);
            case "back": return back(a[0]);
            case "undo": return undo();
            case "type": return type(a[0]);
            case "clear": return clear();
            case "read": return read();
            case "way": return way(a[0], a[1]);
            case "odds": return in(a[0], 0, 5) && in(a[1], -40, 40) ? odds(a[0], a[1]) : bad();
            case "of": return noCount(a[0]) || !in(a[1], 0, 3) ? bad() : books.counts.get(a[0])[a[1]];
            case "about": return about(a[0], a[1]);
            case "likely": return likely(a[0], a[1]);
            case "truly": return noBundle(a[0]) || !in(a[1], 0, 1) ? bad() : a[1] == 0 ? truly(a[0]) : canBe(a[0]);
            case "agreed": return agreed(a[0]);
            case "believe": return believe();
            case "wrong": return wrong(a[0]);
            case "enough": return enough(a[0], a[1], a[2]);
            case "plan": return plan(a[0], a[1]);
            case "open": return open();
            case "sum": return sum();
            case "cause": return cause(a[0], a[1], a[2], a[3]);
            case "forget": return forget();
            case "why": return why(a[0], a[1]);
            case "look": return look(a[0], a[1]);
            case "writeOff": return writeOff(a[0], a[1]);
            case "drawn": return drawn(a[0], a[1], a[2], a[3], a[4]);
            case "part": return !in(a[0], 0, 1) ? bad() : (a[0] == 0 ? above : below).longValueExact();
            case "image": return image(a[0]);
            case "from": return from(a[0]);
            case "status": return in(a[0], 0, 2) ? status[a[0]] : refused(0, -1);
            case "count": return in(a[0], 0, 5) ? many(a[0]) : bad();
            case "digest": return digest();
            default: throw new IllegalArgumentException(name);
        }
    }

    private int bank() {
        int before = books.bundles.size();
        books = new Books();
        images = new Books[2];
        text = "";
        above = BigInteger.ZERO;
        below = BigInteger.ONE;
        status = new int[3];
        return before;
    }

    private int clerk(int trust) {
        if (!in(trust, 0, 10)) {
            return bad();
        }
        if (books.trust.size() == 5) {
            return refused(2, -4);
        }
        books.trust.add(trust);
        return books.trust.size() - 1;
    }

    private int bundle(int low, int high) {
        if (!in(low, 90, 110) || !in(high, 90, 110) || low > high) {
            return bad();
        }
        if (books.bundles.size() == 5) {
            return refused(2, -4);
        }
        books.bundles.add(new int[] {low, high, -1, -1});
        return books.bundles.size() - 1;
    }

    private int band(int b, int n, int c) {
        if (noBundle(b) || !in(n, 90, 110) || noClerk(c)) {
            return bad();
        }
        int before = books.bundles.get(b)[2];
        books.bundles.get(b)[2] = n;
        books.bundles.get(b)[3] = c;
        return before;
    }

    private void keep() {
        books.earlier.add(new ArrayList<>(books.counts));
        if (books.earlier.size() > 8) {
            books.earlier.remove(0);
        }
    }

    private int tell(int b, int w, int c, int told) {
        if (noBundle(b) || !in(w, 0, 5) || noClerk(c) || !in(told, 80, 120)) {
            return bad();
        }
        if (books.counts.size() == 8) {
            return refused(2, -4);
        }
        keep();
        books.counts.add(new int[] {b, w, c, told});
        return books.counts.size() - 1;
    }

    private int back(int count) {
        if (noCount(count)) {
            return bad();
        }
        keep();
        books.counts.remove(count);
        return books.counts.size();
    }

    private int undo() {
        if (books.earlier.isEmpty()) {
            return refused(1, -3);
        }
        books.counts = books.earlier.remove(books.earlier.size() - 1);
        return books.counts.size();
    }

    private int type(int c) {
        if (!in(c, 0, 127)) {
            return bad();
        }
        if (text.length() == 150) {
            return refused(2, -4);
        }
        text += (char) c;
        return text.length();
    }

    private int clear() {
        int before = text.length();
        text = "";
        return before;
    }

    private int read() {
        Books draft = new Books();
        List<String> tokens = new ArrayList<>();
        List<Integer> places = new ArrayList<>();
        Matcher matcher = Pattern.compile("[a-z]+|[0-9]+|[^ ]", Pattern.DOTALL).matcher(text);
        while (matcher.find()) {
            tokens.add(matcher.group());
            places.add(matcher.start());
        }
        tokens.add("");
        places.add(text.length());
        int items = 0;
        int i = 0;
        while (i == 0 || !tokens.get(i).isEmpty()) {
            int good = item(tokens.subList(i, tokens.size()), items == 0, draft);
            if (good < 0) {
                return -10 - places.get(i - good - 1);
            }
            i += good;
            items++;
        }
        books = draft;
        return items;
    }

    /** How many tokens the item takes; -1 less how many of them are good ahead of the one that is not. */
    private static int item(List<String> tokens, boolean first, Books draft) {
        String word = tokens.get(0);
        int clerks = draft.trust.size() - 1;
        int bundles = draft.bundles.size() - 1;
        int[][] ranges;
        if (first != word.equals("bank")) {
            return -1;
        } else if (first) {
            ranges = new int[][] {};
        } else if (word.equals("clerk") && clerks < 4) {
            ranges = new int[][] {{0, 10}};
        } else if (word.equals("bundle") && bundles < 4) {
            ranges = new int[][] {{90, 110}, {90, 110}};
        } else if (word.equals("band")) {
            ranges = new int[][] {{0, bundles}, {90, 110}, {0, clerks}};
        } else if (word.equals("count") && draft.counts.size() < 8) {
            ranges = new int[][] {{0, bundles}, {0, 5}, {0, clerks}, {80, 120}};
        } else {
            return -1;
        }
        int[] v = new int[ranges.length];
        for (int i = 0; i < v.length; i++) {
            if (!tokens.get(i + 1).matches("[0-9]{1,3}")) {
                return -2 - i;
            }
            v[i] = Integer.parseInt(tokens.get(i + 1));
            if (!in(v[i], ranges[i][0], ranges[i][1]) || word.equals("bundle") && i == 1 && v[1] < v[0]) {
                return -2 - i;
            }
        }
        if (!tokens.get(v.length + 1).equals(";")) {
            return -2 - v.length;
        }
        if (word.equals("clerk")) {
            draft.trust.add(v[0]);
        } else if (word.equals("bundle")) {
            draft.bundles.add(new int[] {v[0], v[1], -1, -1});
        } else if (word.equals("band")) {
            draft.bundles.get(v[0])[2] = v[1];
            draft.bundles.get(v[0])[3] = v[2];
        } else if (word.equals("count")) {
            draft.counts.add(v);
        }
        return v.length + 2;
    }

    private static int off(int way, int k) {
        switch (way) {
            case 0: return k <= 1 ? -1 : k == 2 ? 1 : 0;
            case 1: return k == 3 ? -5 : off(0, k);
            case 2: return k <= 2 ? -1 : k <= 5 ? -2 : k <= 8 ? 1 : k <= 11 ? 2 : 0;
            case 3: return k == 12 || k == 13 ? -3 : k == 14 || k == 15 ? 3 : off(2, k);
            case 4: return off(0, k / 2);
            default: return k >= 6 && k <= 8 ? -2 : off(4, k);
        }
    }

    private static int odds(int way, int v) {
        int many = 0;
        for (int k = 0; k < 20; k++) {
            many += off(way, k) == v ? 1 : 0;
        }
        return many;
    }

    private int way(int way, int what) {
        if (!in(way, 0, 5) || !in(what, 0, 21)) {
            return refused(0, -100);
        }
        return what < 20 ? off(way, what) : what == 20 ? new int[] {5, 3, 1, 1, 7, 7}[way] : odds(way, 0);
    }

    private List<int[]> countsOf(int b) {
        List<int[]> found = new ArrayList<>();
        for (int[] count : books.counts) {
            if (count[0] == b) {
                found.add(count);
            }
        }
        return found;
    }

    private int about(int b, int what) {
        if (noBundle(b) || !in(what, 0, 4)) {
            return refused(0, -10);
        }
        return what < 4 ? books.bundles.get(b)[what] : countsOf(b).size();
    }

    private BigInteger weight(int b, int n, List<int[]> more) {
        int[] bundle = books.bundles.get(b);
        int low = bundle[0];
        int high = bundle[1];
        if (!in(n, low, high)) {
            return BigInteger.ZERO;
        }
        BigInteger weight = BigInteger.ONE;
        if (bundle[2] != -1 && in(bundle[2], low, high) && high > low) {
            int trust = books.trust.get(bundle[3]);
            weight = BigInteger.valueOf(n == bundle[2] ? trust * (high - low) : 10 - trust);
        }
        List<int[]> all = countsOf(b);
        all.addAll(more);
        for (int[] count : all) {
            weight = weight.multiply(BigInteger.valueOf(odds(count[1], count[3] - n)));
        }
        return weight;
    }

    private BigInteger weights(int b, List<int[]> more) {
        BigInteger all = BigInteger.ZERO;
        for (int n = 90; n <= 110; n++) {
            all = all.add(weight(b, n, more));
        }
        return all;
    }

    private void fraction(BigInteger newAbove, BigInteger newBelow) {
        BigInteger divisor = newAbove.gcd(newBelow);
        above = newAbove.divide(divisor);
        below = newBelow.divide(divisor);
    }

    private int likely(int b, int n) {
        if (noBundle(b) || !in(n, 90, 110)) {
            return bad();
        }
        BigInteger all = weights(b, List.of());
        if (all.signum() == 0) {
            return refused(1, -3);
        }
        fraction(weight(b, n, List.of()), all);
        return 1;
    }

    private int truly(int b) {
        int best = -1;
        BigInteger most = BigInteger.ZERO;
        for (int n = 110; n >= 90; n--) {
            BigInteger weight = weight(b, n, List.of());
            if (weight.signum() > 0 && weight.compareTo(most) >= 0) {
                most = weight;
                best = n;
            }
        }
        return best;
    }

    private int canBe(int b) {
        int many = 0;
        for (int n = 90; n <= 110; n++) {
            many += weight(b, n, List.of()).signum();
        }
        return many;
    }

    private int agreed(int b) {
        if (noBundle(b)) {
            return bad();
        }
        List<int[]> counts = countsOf(b);
        for (int i = 0; i + 1 < counts.size(); i++) {
            if (counts.get(i)[3] == counts.get(i + 1)[3]) {
                return counts.get(i)[3];
            }
        }
        return -1;
    }

    private int believe() {
        int[] score = new int[books.trust.size()];
        for (int[] count : books.counts) {
            score[count[2]] += truly(count[0]) == count[3] ? 1 : -1;
        }
        int best = books.counts.isEmpty() ? -1 : 0;
        for (int c = 0; best >= 0 && c < score.length; c++) {
            if (score[c] > score[best]) {
                best = c;
            }
        }
        return best;
    }

    private int wrong(int c) {
        if (noCount(c)) {
            return bad();
        }
        int b = books.counts.get(c)[0];
        BigInteger others = BigInteger.ZERO;
        for (int n = 90; n <= 110; n++) {
            if (n != books.counts.get(c)[3]) {
                others = others.add(weight(b, n, List.of()));
            }
        }
        BigInteger all = weights(b, List.of());
        if (all.signum() == 0) {
            return refused(1, -3);
        }
        fraction(others, all);
        return 1;
    }

    private int enough(int b, int w, int s) {
        if (noBundle(b) || !in(w, 0, 5) || !in(s, 1, 9)) {
            return bad();
        }
        int now = truly(b);
        List<int[]> more = new ArrayList<>();
        for (int k = 0; k <= 3 && now != -1; k++) {
            BigInteger tenTimes = weight(b, now, more).multiply(BigInteger.TEN);
            if (tenTimes.compareTo(weights(b, more).multiply(BigInteger.valueOf(s))) >= 0) {
                return k;
            }
            more.add(new int[] {b, w, 0, now});
        }
        return -1;
    }

    private int plan(int b, int m) {
        if (noBundle(b) || !in(m, 0, 30)) {
            return bad();
        }
        int now = truly(b);
        if (now == -1) {
            return refused(1, -3);
        }
        int best = -1;
        BigInteger bestAbove = null;
        BigInteger bestBelow = null;
        for (int a = 0; a <= 3; a++) {
            for (int f = 0; a + f <= 3; f++) {
                for (int g = 0; a + f + g <= 3; g++) {
                    if (5 * a + 3 * f + g > m) {
                        continue;
                    }
                    List<int[]> more = new ArrayList<>();
                    for (int i = 0; i < a + f + g; i++) {
                        more.add(new int[] {b, i < a ? 0 : i < a + f ? 1 : 2, 0, now});
                    }
                    BigInteger newAbove = weight(b, now, more);
                    BigInteger newBelow = weights(b, more);
                    if (best < 0 || newAbove.multiply(bestBelow).compareTo(bestAbove.multiply(newBelow)) > 0) {
                        best = 100 * a + 10 * f + g;
                        bestAbove = newAbove;
                        bestBelow = newBelow;
                    }
                }
            }
        }
        fraction(bestAbove, bestBelow);
        return best;
    }

    private int open() {
        int bits = 0;
        for (int b = 0; b < books.bundles.size(); b++) {
            int said = books.bundles.get(b)[2];
            bits += said != -1 && truly(b) != -1 && truly(b) != said ? 1 << b : 0;
        }
        return bits;
    }

    private int sum() {
        int all = 0;
        for (int b = 0; b < books.bundles.size(); b++) {
            if (truly(b) == -1) {
                return -1;
            }
            all += truly(b);
        }
        return all;
    }

    private int cause(int n, int o, int w, int m) {
        if (!in(n, -99, 99) || !in(o, 1, 20) || !in(w, 0, 30) || !in(m, 0, 10)) {
            return bad();
        }
        if (books.causes.size() == 6) {
            return refused(2, -4);
        }
        books.causes.add(new int[] {n, o, w, m});
        return books.causes.size() - 1;
    }

    private int forget() {
        int before = books.causes.size();
        books.causes.clear();
        return before;
    }

    private int why(int d, int what) {
        if (!in(d, -198, 198) || !in(what, 0, 1)) {
            return bad();
        }
        int found = 0;
        int best = -1;
        int most = -1;
        for (int code = 0; code < 100; code++) {
            int i = code / 10;
            int j = code % 10;
            if (i > j || j >= books.causes.size()) {
                continue;
            }
            int[] one = books.causes.get(i);
            int[] other = books.causes.get(j);
            if ((i == j ? one[0] : one[0] + other[0]) != d) {
                continue;
            }
            found++;
            int odds = i == j ? one[1] : one[1] * other[1] / 20;
            if (odds > most) {
                most = odds;
                best = code;
            }
        }
        return what == 0 ? found : best;
    }

    /** Every order, the first ones first. */
    private static void orders(List<Integer> left, List<Integer> taken, List<List<Integer>> all) {
        if (left.isEmpty()) {
            all.add(new ArrayList<>(taken));
        }
        for (Integer next : left) {
            List<Integer> rest = new ArrayList<>(left);
            rest.remove(next);
            taken.add(next);
            orders(rest, taken, all);
            taken.remove(taken.size() - 1);
        }
    }

    /** Ten times the odds together times the mean. */
    private int mean(List<Integer> order) {
        int all = 0;
        for (int i : order) {
            all += books.causes.get(i)[2];
        }
        int sum = 0;
        int until = 0;
        for (int i : order) {
            int[] cause = books.causes.get(i);
            until += cause[2];
            sum += cause[1] * cause[3] * until + cause[1] * (10 - cause[3]) * all;
        }
        return sum;
    }

    private int look(int d, int i) {
        if (!in(d, -198, 198) || i < 0) {
            return refused(0, -10);
        }
        List<Integer> such = new ArrayList<>();
        int odds = 0;
        for (int c = 0; c < books.causes.size(); c++) {
            if (books.causes.get(c)[0] == d) {
                such.add(c);
                odds += books.causes.get(c)[1];
            }
        }
        if (i >= such.size()) {
            return -5;
        }
        List<List<Integer>> all = new ArrayList<>();
        orders(such, new ArrayList<>(), all);
        List<Integer> best = all.get(0);
        for (List<Integer> order : all) {
            if (mean(order) < mean(best)) {
                best = order;
            }
        }
        fraction(BigInteger.valueOf(mean(best)), BigInteger.valueOf(10L * odds));
        return best.get(i);
    }

    private int writeOff(int d, int p) {
        if (!in(d, -198, 198) || !in(p, 0, 99)) {
            return bad();
        }
        for (int[] cause : books.causes) {
            if (cause[0] == d && 10 * p * cause[2] < Math.abs(d) * cause[3]) {
                return 0;
            }
        }
        return 1;
    }

    private int drawn(int w, int t, int n, int seed, int what) {
        if (!in(w, 0, 5) || !in(t, 80, 120) || !in(n, 0, 60) || !in(seed, 0, 999999) || !in(what, 0, 2)) {
            return bad();
        }
        int[] told = new int[n];
        BigInteger x = BigInteger.valueOf(seed);
        int right = 0;
        for (int i = 0; i < n; i++) {
            x = x.multiply(BigInteger.valueOf(1103515245)).add(BigInteger.valueOf(12345))
                    .mod(BigInteger.ONE.shiftLeft(31));
            told[i] = t + off(w, x.shiftRight(16).mod(BigInteger.valueOf(20)).intValue());
            right += told[i] == t ? 1 : 0;
        }
        Arrays.sort(told);
        return what == 0 ? right : n == 0 ? -1 : what == 1 ? told[0] : told[n - 1];
    }

    private int image(int i) {
        if (!in(i, 0, 1)) {
            return bad();
        }
        images[i] = books.copy();
        return 1;
    }

    private int from(int i) {
        if (!in(i, 0, 1)) {
            return bad();
        }
        if (images[i] == null) {
            return refused(1, -3);
        }
        books = images[i].copy();
        return 1;
    }

    private int many(int what) {
        return new int[] {books.trust.size(), books.bundles.size(), books.counts.size(), books.causes.size(),
            books.earlier.size(), text.length()}[what];
    }

    private long digest() {
        List<Long> values = new ArrayList<>();
        for (int what = 0; what <= 5; what++) {
            values.add((long) many(what));
        }
        for (int trust : books.trust) {
            values.add((long) trust);
        }
        for (List<int[]> rows : List.of(books.bundles, books.counts, books.causes)) {
            for (int[] row : rows) {
                for (int v : row) {
                    values.add((long) v);
                }
            }
        }
        values.add(above.longValueExact());
        values.add(below.longValueExact());
        long h = 937;
        for (long v : values) {
            h = 31 * h + v;
        }
        return h;
    }
}
