import java.util.Random;

/** Runs of calls by chance, on the class and on the model: all promises together, each answer and digest alike. */
public final class ModelTest {
    private static final int RUNS = 3000;
    // What later calls of one object answer is free.
    private static final int CALLS = 512;
    private static final int[] EXTREMES = {Integer.MIN_VALUE, Integer.MAX_VALUE, -1, -1000, 1000};
    private static final String[] NAMES = {"bank", "clerk", "bundle", "band", "tell", "back", "undo", "type", "clear",
        "read", "way", "odds", "of", "about", "likely", "truly", "agreed", "believe", "wrong", "enough", "plan",
        "open", "sum", "cause", "forget", "why", "look", "writeOff", "drawn", "part", "image", "from", "status",
        "count", "digest"};

    private final Random random;
    private final ThriceCounted x = new ThriceCounted();
    private final Model model = new Model();
    private final int[] causes;
    private final int told;
    private int asked = 0;

    private ModelTest(long seed) {
        random = new Random(seed);
        causes = new int[] {0, between(-99, 99), between(-3, 3), 99, -99};
        told = between(88, 112);
    }

    public static void main(String[] args) {
        for (int run = 0; run < RUNS; run++) {
            new ModelTest(run).run(run);
            new ModelTest(run).lookRun(run);
        }
        Check.finish("ModelTest");
    }

    private int between(int least, int most) {
        return least + random.nextInt(most - least + 1);
    }

    /** Most often of that range, at times just beside it, seldom far from it. */
    private int number(int least, int most) {
        int chance = random.nextInt(120);
        if (chance == 0) {
            return EXTREMES[random.nextInt(EXTREMES.length)];
        }
        if (chance <= 2) {
            return chance == 1 ? least - 1 : most + 1;
        }
        if (chance <= 8) {
            return chance % 2 == 0 ? least : most;
        }
        return between(least, most);
    }

    private int nearTold() {
        return random.nextInt(6) == 0 ? number(80, 120) : told + between(-2, 2);
    }

    private int off() {
        int one = causes[random.nextInt(causes.length)];
        return random.nextInt(8) == 0 ? number(-198, 198) : random.nextInt(3) == 0 ? 2 * one : one;
    }

    private int some(int many) {
        return random.nextInt(8) == 0 ? number(0, many - 1) : random.nextInt(Math.max(1, many / 2));
    }

    private int[] arguments(String name) {
        switch (name) {
            case "clerk": return new int[] {number(0, 10)};
            case "bundle": {
                int low = number(90, 110);
                return new int[] {low, random.nextInt(5) == 0 ? number(90, 110) : Math.min(110, low + between(0, 12))};
            }
            case "band": return new int[] {some(5), number(90, 110), some(5)};
            case "tell": return new int[] {some(5), number(0, 5), some(5), nearTold()};
            case "back": return new int[] {some(8)};
            case "type": return new int[] {number(0, 127)};
            case "way": return new int[] {number(0, 5), number(0, 21)};
            case "odds": return new int[] {number(0, 5), random.nextBoolean() ? number(-40, 40) : between(-6, 6)};
            case "of": return new int[] {some(8), number(0, 3)};
            case "about": return new int[] {some(5), number(0, 4)};
            case "likely": return new int[] {some(5), number(90, 110)};
            case "truly": return new int[] {some(5), number(0, 1)};
            case "agreed": return new int[] {some(5)};
            case "wrong": return new int[] {some(8)};
            case "enough": return new int[] {some(5), number(0, 5), number(1, 9)};
            case "plan": return new int[] {some(5), number(0, 30)};
            case "cause": return new int[] {off(), number(1, 20), number(0, 30), number(0, 10)};
            case "why": return new int[] {off(), number(0, 1)};
            case "look": return new int[] {off(), number(0, 5)};
            case "writeOff": return new int[] {off(), number(0, 99)};
            case "drawn": return new int[] {number(0, 5), number(80, 120), number(0, 60), number(0, 999999),
                number(0, 2)};
            case "part": return new int[] {number(0, 1)};
            case "image":
            case "from": return new int[] {number(0, 1)};
            case "status": return new int[] {number(0, 2)};
            case "count": return new int[] {number(0, 5)};
            default: return new int[0];
        }
    }

    private void answer(int run, String name, int... arguments) {
        asked++;
        Check.due("run " + run + ": " + Calls.text(name, arguments), Calls.ask(x, name, arguments),
                model.call(name, arguments));
    }

    private void both(int run, String name, int... arguments) {
        answer(run, name, arguments);
        answer(run, "digest");
    }

    private String item() {
        switch (random.nextInt(8)) {
            case 0: return "clerk " + number(0, 10) + ";";
            case 1: return "bundle " + number(90, 100) + " " + number(100, 110) + ";";
            case 2: return "band " + some(3) + " " + number(90, 110) + " " + some(3) + ";";
            default: return "count " + some(3) + " " + number(0, 5) + " " + some(3) + " " + nearTold() + ";";
        }
    }

    /** A text of a bank, mostly a good one; at times a byte of it is another, or more, or less. */
    private String text() {
        StringBuilder made = new StringBuilder("bank;clerk " + between(0, 10) + ";bundle 9" + between(0, 9) + " 110;");
        int items = random.nextInt(9);
        for (int i = 0; i < items; i++) {
            made.append(item());
        }
        int changes = Math.max(0, random.nextInt(5) - 2);
        String bytes = " ;0123456789abcdeklnrtu!A\n";
        for (int i = 0; i < changes; i++) {
            int place = random.nextInt(made.length());
            char c = bytes.charAt(random.nextInt(bytes.length()));
            switch (random.nextInt(4)) {
                case 0: made.setCharAt(place, c); break;
                case 1: made.insert(place, c); break;
                case 2: made.deleteCharAt(place); break;
                default: made.setLength(Math.max(1, place)); break;
            }
        }
        return made.toString();
    }

    private void readText(int run) {
        String text = text();
        both(run, "clear");
        for (int i = 0; i < text.length(); i++) {
            answer(run, "type", text.charAt(i));
        }
        both(run, "read");
    }

    /** Small numbers, so that many orders are alike and many causes take no minutes or are never found. */
    private void lookRun(int run) {
        int many = between(2, 6);
        for (int i = 0; i < many; i++) {
            both(run, "cause", 7, between(1, 4), between(0, 4), between(0, 3) * 3);
        }
        for (int i = 0; i <= many; i++) {
            both(run, "look", 7, i);
        }
    }

    private void run(int run) {
        if (random.nextInt(3) > 0) {
            readText(run);
        }
        while (asked + 5 <= CALLS) {
            String name = NAMES[random.nextInt(NAMES.length)];
            boolean rare = name.equals("bank") || name.equals("forget") || name.equals("clear");
            if (rare && random.nextInt(6) > 0) {
                name = random.nextBoolean() ? "tell" : "cause";
            }
            both(run, name, arguments(name));
        }
        for (int what = 0; what < 3; what++) {
            answer(run, "status", what);
        }
    }
}
