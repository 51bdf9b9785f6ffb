import java.util.Arrays;
import java.util.Random;

/** Runs of calls by chance, on the class and on the model: all promises together, each answer and digest alike. */
public final class ModelTest {
    private static final int RUNS = 3000;
    private static final int CALLS = 250;
    private static final int[] EXTREMES = {Integer.MIN_VALUE, Integer.MAX_VALUE, -1, -1000, 1000};
    private static final String[] NAMES = {"bank", "clerk", "bundle", "band", "tell", "back", "undo", "type", "clear",
        "read", "way", "odds", "of", "about", "likely", "truly", "agreed", "believe", "wrong", "enough", "plan",
        "open", "sum", "cause", "forget", "why", "look", "writeOff", "drawn", "part", "image", "from", "status",
        "count", "digest"};

    private final Random random;
    private final ThriceCounted x = new ThriceCounted();
    private final Model model = new Model();
    private final int[] causes;
    private final int told;

    private ModelTest(long seed) {
        random = new Random(seed);
        causes = new int[] {0, between(-99, 99), between(-3, 3), 99, -99};
        told = between(88, 112);
    }

    public static void main(String[] args) {
        for (int run = 0; run < RUNS; run++) {
            new ModelTest(run).run(run);
            new ModelTest(run).lookRun(run);
        }
        Check.finish("ModelTest");
    }

    private int between(int least, int most) {
        return least + random.nextInt(most - least + 1);
    }

    /** Most often of that range, at times just beside it, seldom far from it. */
    private int number(int least, int most) {
        int chance = random.nextInt(120);
        if (chance == 0) {
            return EXTREMES[random.nextInt(EXTREMES.length)];
        }
        if (chance <= 2) {
            return chance == 1 ? least - 1 : most + 1;
        }
        if (chance <= 8) {
            return chance % 2 == 0 ? least : most;
        }
        return between(least, most);
    }

    private int nearTold() {
        return random.nextInt(6) == 0 ? number(80, 120) : told + between(-2, 2);
    }

    private int off() {
        int one = causes[random.nextInt(causes.length)];
        return random.nextInt(8) == 0 ? number(-198, 198) : random.nextInt(3) == 0 ? 2 * one : one;
    }

    private int some(int many) {
        return random.nextInt(8) == 0 ? number(0, many - 1) : random.nextInt(Math.max(1, many / 2));
    }

    private int[] arguments(String name) {
        switch (name) {
            case "clerk": return new int[] {number(0, 10)};
            case "bundle": {
                int low = number(90, 110);
                return new int[] {low, random.nextInt(5) == 0 ? number(90, 110) : Math.min(110, low + between(0, 12))};
            }
            case "band": return new int[] {some(5), number(90, 110), some(5)};
            case "tell": return new int[] {some(5), number(0, 5), some(5), nearTold()};
            case "back": return new int[] {some(8)};
            case "type": return new int[] {number(0, 127)};
            case "way": return new int[] {number(0, 5), number(0, 21)};
            case "odds": return new int[] {number(0, 5), random.nextBoolean() ? number(-40, 40) : between(-6, 6)};
            case "of": return new int[] {some(8), number(0, 3)};
            case "about": return new int[] {some(5), number(0, 4)};
            case "likely": return new int[] {some(5), number(90, 110)};
            case "truly": return new int[] {some(5), number(0, 1)};
            case "agreed": return new int[] {some(5)};
            case "wrong": return new int[] {some(8)};
            case "enough": return new int[] {some(5), number(0, 5), number(1, 9)};
            case "plan": return new int[] {some(5), number(0, 30)};
            case "cause": return new int[] {off(), number(1, 20), number(0, 30), number(0, 10)};
            case "why": return new int[] {off(), number(0, 1)};
            case "look": return new int[] {off(), number(0, 5)};
            case "writeOff": return new int[] {off(), number(0, 99)};
            case "drawn": return new int[] {number(0, 5), number(80, 120), number(0, 60), number(0, 999999),
                number(0, 2)};
            case "part": return new int[] {number(0, 1)};
            case "image":
            case "from": return new int[] {number(0, 1)};
            case "status": return new int[] {number(0, 2)};
            case "count": return new int[] {number(0, 5)};
            default: return new int[0];
        }
    }

    private long ask(String name, int[] a) {
        switch (name) {
            case "bank": return x.bank();
            case "clerk": return x.clerk(a[0]);
            case "bundle": return x.bundle(a[0], a[1]);
            case "band": return x.band(a[0], a[1], a[2]);
            case "tell": return x.tell(a[0], a[1], a[2], a[3]);
            case "back": return x.back(a[0]);
            case "undo": return x.undo();
            case "type": return x.type(a[0]);
            case "clear": return x.clear();
            case "read": return x.read();
            case "way": return x.way(a[0], a[1]);
            case "odds": return x.odds(a[0], a[1]);
            case "of": return x.of(a[0], a[1]);
            case "about": return x.about(a[0], a[1]);
            case "likely": return x.likely(a[0], a[1]);
            case "truly": return x.truly(a[0], a[1]);
            case "agreed": return x.agreed(a[0]);
            case "believe": return x.believe();
            case "wrong": return x.wrong(a[0]);
            case "enough": return x.enough(a[0], a[1], a[2]);
            case "plan": return x.plan(a[0], a[1]);
            case "open": return x.open();
            case "sum": return x.sum();
            case "cause": return x.cause(a[0], a[1], a[2], a[3]);
            case "forget": return x.forget();
            case "why": return x.why(a[0], a[1]);
            case "look": return x.look(a[0], a[1]);
            case "writeOff": return x.writeOff(a[0], a[1]);
            case "drawn": return x.drawn(a[0], a[1], a[2], a[3], a[4]);
            case "part": return x.part(a[0]);
            case "image": return x.image(a[0]);
            case "from": return x.from(a[0]);
            case "status": return x.status(a[0]);
            case "count": return x.count(a[0]);
            default: return x.digest();
        }
    }

    private void both(int run, String name, int... arguments) {
        Check.due("run " + run + ": " + name + Arrays.toString(arguments), ask(name, arguments),
                model.call(name, arguments));
        Check.due("run " + run + ": digest behind " + name, x.digest(), model.call("digest", new int[0]));
    }

    private String item() {
        switch (random.nextInt(8)) {
            case 0: return "clerk " + number(0, 10) + ";";
            case 1: return "bundle " + number(90, 100) + " " + number(100, 110) + ";";
            case 2: return "band " + some(3) + " " + number(90, 110) + " " + some(3) + ";";
            default: return "count " + some(3) + " " + number(0, 5) + " " + some(3) + " " + nearTold() + ";";
        }
    }

    /** A text of a bank, mostly a good one; at times a byte of it is another, or more, or less. */
    private String text() {
        StringBuilder made = new StringBuilder("bank;clerk " + between(0, 10) + ";bundle 9" + between(0, 9) + " 110;");
        int items = random.nextInt(9);
        for (int i = 0; i < items; i++) {
            made.append(item());
        }
        int changes = Math.max(0, random.nextInt(5) - 2);
        String bytes = " ;0123456789abcdeklnrtu!A\n";
        for (int i = 0; i < changes; i++) {
            int place = random.nextInt(made.length());
            char c = bytes.charAt(random.nextInt(bytes.length()));
            switch (random.nextInt(4)) {
                case 0: made.setCharAt(place, c); break;
                case 1: made.insert(place, c); break;
                case 2: made.deleteCharAt(place); break;
                default: made.setLength(Math.max(1, place)); break;
            }
        }
        return made.toString();
    }

    private void readText(int run) {
        String text = text();
        both(run, "clear");
        for (int i = 0; i < text.length(); i++) {
            both(run, "type", text.charAt(i));
        }
        both(run, "read");
    }

    /** Small numbers, so that many orders are alike and many causes take no minutes or are never found. */
    private void lookRun(int run) {
        int many = between(2, 6);
        for (int i = 0; i < many; i++) {
            both(run, "cause", 7, between(1, 4), between(0, 4), between(0, 3) * 3);
        }
        for (int i = 0; i <= many; i++) {
            both(run, "look", 7, i);
        }
    }

    private void run(int run) {
        if (random.nextInt(3) > 0) {
            readText(run);
        }
        for (int i = 0; i < CALLS; i++) {
            String name = NAMES[random.nextInt(NAMES.length)];
            boolean rare = name.equals("bank") || name.equals("forget") || name.equals("clear");
            if (rare && random.nextInt(6) > 0) {
                name = random.nextBoolean() ? "tell" : "cause";
            }
            both(run, name, arguments(name));
        }
        for (int what = 0; what < 3; what++) {
            both(run, "status", what);
        }
    }
}
