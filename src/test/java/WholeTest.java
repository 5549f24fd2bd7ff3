import java.lang.reflect.InvocationTargetException;
import java.lang.reflect.Method;
import java.util.ArrayList;
import java.util.Arrays;
import java.util.HashMap;
import java.util.List;
import java.util.Map;
import java.util.Random;

/**
 * All promises together: long drawn runs of calls, each answer laid beside that of PlainShip, so that what one
 * call does to the answers of another is looked at too.
 */
public final class WholeTest {
    private static final Check CHECK = new Check();
    private static final int CALLS = 512;
    // What one draw may bring: a text takes fourteen calls, a RUN and all that is asked of it a few more.
    private static final int MOST_AT_ONCE = 32;
    // Behind each name the kind of each of its numbers, and how often it is drawn.
    private static final String[] FACE = {"cabin class berths 6", "person class port port party 20", "book person 22",
        "cancel person 5", "berth person 3", "who cabin berth leg 5", "aboard class leg 3",
        "seats class seats seats seats 4", "wish person sitting 6", "dine leg class 10", "sitting leg person 10",
        "burn knots tons 4", "storm watch watch part 2", "miles watch knots 2", "run miles watch watch knots knots 1",
        "steamed watch what 3", "feed any any any any any 1", "end bytes 1", "rules 1", "fault 1",
        "bet pool person day stake watch 10", "day pool day 5", "wins bet 6", "pool pool what 8", "trunk person 3",
        "see trunk place watch watch 8", "where trunk watch watch 8", "ill person leg 3", "met person 8", "count what 3",
        "status 6"};
    private static final Map<String, int[]> RANGES = new HashMap<>();
    // What there may be none of, by the number that count() has for it.
    private static final Map<String, Integer> HELD = Map.of("cabin", 0, "person", 1, "bet", 4, "trunk", 5, "bytes", 7);
    private static final int[] ENDS = {Integer.MIN_VALUE, -2, -1, 0, 1, 100, 3000, 10000, 10001, Integer.MAX_VALUE};

    static {
        String[] told = {"class 0 2", "berths 1 4", "port 0 7", "party -1 29", "person 0 99", "cabin 0 19", "berth 0 3",
            "leg 0 6", "seats 0 100", "sitting -1 2", "knots 0 24", "tons 0 1000", "watch 0 35", "part 0 100",
            "miles 0 3000", "what 0 7", "bytes 0 200", "pool 0 5", "day 0 1000", "stake 0 10000", "bet 0 99",
            "trunk 0 39", "place 0 99"};
        for (String line : told) {
            String[] words = line.split(" ");
            RANGES.put(words[0], new int[] {Integer.parseInt(words[1]), Integer.parseInt(words[2])});
        }
    }

    private final Random random;
    private final SixDays object = new SixDays();
    private final PlainShip plain = new PlainShip();
    private final String title;
    // A small ship is full early and its people meet; a wide one tries the ends of all ranges.
    private final int width;
    private final int wrongOnes;
    private int calls = 0;

    private WholeTest(int seed) {
        random = new Random(seed);
        title = "run " + seed;
        width = 2 + random.nextInt(seed % 3 == 0 ? 100 : 12);
        wrongOnes = seed % 2 == 0 ? 200 : 12;
    }

    public static void main(String[] args) {
        int runs = args.length > 0 ? Integer.parseInt(args[0]) : 300;
        for (int seed = 1; seed <= runs; seed++) {
            new WholeTest(seed).play();
        }
        CHECK.finish();
    }

    private void play() {
        List<String> drawn = new ArrayList<>();
        for (String line : FACE) {
            String[] words = line.split(" ");
            int often = Integer.parseInt(words[words.length - 1]);
            for (int i = 0; i < often; i++) {
                drawn.add(line);
            }
        }
        settle();
        while (calls < CALLS - MOST_AT_ONCE) {
            switch (random.nextInt(60)) {
                case 0: tellRules(); break;
                case 1: steam(); break;
                case 2: serve(); break;
                default: call(drawn.get(random.nextInt(drawn.size())).split(" ")); break;
            }
        }
    }

    /** Enough of a ship that the calls behind it find somebody. */
    private void settle() {
        for (int i = 0; i < 3 + random.nextInt(5); i++) {
            ask("cabin", random.nextInt(2), 1 + random.nextInt(4));
        }
        for (int i = 0; i < 5 + random.nextInt(15); i++) {
            int from = random.nextInt(3);
            ask("person", random.nextInt(2), from, from + 1 + random.nextInt(7 - from), random.nextInt(4) - 1);
            ask("book", i);
        }
        ask("seats", 0, random.nextInt(8), random.nextInt(5), random.nextInt(5));
        ask("seats", 1, random.nextInt(5), random.nextInt(8), random.nextInt(3));
        for (int pool = 0; pool < random.nextInt(7); pool++) {
            ask("day", pool, random.nextInt(40));
        }
    }

    private void call(String[] words) {
        int[] numbers = new int[words.length - 2];
        for (int i = 0; i < numbers.length; i++) {
            numbers[i] = number(words[i + 1]);
        }
        ask(words[0], numbers);
    }

    private int number(String kind) {
        if (kind.equals("any")) {
            return random.nextInt();
        }
        if (random.nextInt(wrongOnes) == 0) {
            return ENDS[random.nextInt(ENDS.length)];
        }
        int[] range = RANGES.get(kind);
        if (random.nextInt(wrongOnes) == 0) {
            return random.nextBoolean() ? range[0] - random.nextInt(2) : range[1] + random.nextInt(2);
        }
        if (HELD.containsKey(kind)) {
            return random.nextInt(plain.count(HELD.get(kind)) + 1);
        }
        boolean narrow = !kind.equals("miles") && !kind.equals("watch") && !kind.equals("knots");
        int most = narrow ? Math.min(range[1], range[0] + width) : range[1];
        return range[0] + random.nextInt(most - range[0] + 1);
    }

    /** A RUN that can mostly be made, and how it was steamed. */
    private void steam() {
        int from = random.nextInt(30);
        int to = from + 1 + random.nextInt(Math.min(35 - from, mostWatches()));
        int a = random.nextInt(25);
        int b = a + random.nextInt(25 - a);
        ask("storm", from, from + random.nextInt(to - from + 1), random.nextInt(101));
        ask("burn", a, random.nextInt(400));
        ask("run", random.nextInt(Math.min(3000, 4 * b * (to - from + 1)) + 1), from, to, a, b);
        ask("steamed", -1, 0);
        for (int i = 0; i < 14; i++) {
            ask("steamed", from + random.nextInt(to - from + 1), i % 2);
        }
    }

    private int mostWatches() {
        return random.nextInt(4) == 0 ? 35 : 4;
    }

    /** A DINING, and who sits where. */
    private void serve() {
        int leg = random.nextInt(7);
        ask("wish", random.nextInt(10), random.nextInt(4) - 1);
        ask("wish", random.nextInt(10), random.nextInt(4) - 1);
        ask("dine", leg, random.nextInt(2));
        for (int person = 0; person < 12; person++) {
            ask("sitting", leg, person);
        }
        ask("ill", random.nextInt(10), random.nextInt(8) - 1);
        for (int i = 0; i < 8; i++) {
            ask("met", random.nextInt(12));
        }
    }

    private void tellRules() {
        StringBuilder text = new StringBuilder();
        int rules = random.nextInt(10) == 0 ? 11 : random.nextInt(4);
        for (int i = 0; i < rules; i++) {
            text.append(i == 0 ? "" : ";").append(blanks()).append(rule()).append(blanks());
        }
        if (random.nextInt(3) == 0) {
            int at = random.nextInt(text.length() + 1);
            text.insert(at, new String[] {";", " ", "x", "0", "to", "P", "\0", "\u00ff", "pool"}[random.nextInt(9)]);
        }
        if (random.nextInt(4) == 0) {
            text.setLength(random.nextInt(text.length() + 1));
        }
        text.setLength(Math.min(text.length(), 200));
        ask("end", 0);
        for (int at = 0; at < text.length(); at += 20) {
            ask("feed", four(text, at), four(text, at + 4), four(text, at + 8), four(text, at + 12), four(text, at + 16));
        }
        ask("end", text.length());
        ask("rules");
        ask("fault");
    }

    private String blanks() {
        return " ".repeat(random.nextInt(3));
    }

    private String rule() {
        switch (random.nextInt(5)) {
            case 0: return "pool" + " " + new String[] {"nearest", "below", "exact"}[random.nextInt(3)];
            case 1: return "seamen" + blanks() + random.nextInt(103);
            case 2: return "close" + blanks() + random.nextInt(38);
            case 3: return "stake" + blanks() + random.nextInt(5) + blanks() + "to" + blanks() + random.nextInt(width + 3);
            default: return "stake 00" + random.nextInt(3) + " to " + (9999 + random.nextInt(3));
        }
    }

    private static int four(CharSequence text, int at) {
        int word = 0;
        for (int i = at; i < at + 4; i++) {
            word = word << 8 | (i < text.length() ? text.charAt(i) : ' ');
        }
        return word;
    }

    private void ask(String name, int... numbers) {
        calls++;
        if (calls > CALLS) {
            throw new IllegalStateException(title + ": more than " + CALLS + " calls");
        }
        String call = title + ", call " + calls + ": " + name + Arrays.toString(numbers);
        CHECK.due(call, answer(object, name, numbers), answer(plain, name, numbers));
    }

    private static int answer(Object of, String name, int[] numbers) {
        Class<?>[] types = new Class<?>[numbers.length];
        Arrays.fill(types, int.class);
        try {
            Method method = of.getClass().getMethod(name, types);
            return (Integer) method.invoke(of, Arrays.stream(numbers).boxed().toArray());
        } catch (InvocationTargetException thrown) {
            throw new IllegalStateException(name + Arrays.toString(numbers) + " threw", thrown.getCause());
        } catch (ReflectiveOperationException missing) {
            throw new IllegalStateException(name, missing);
        }
    }
}
