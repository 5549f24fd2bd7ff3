import java.nio.charset.StandardCharsets;
import java.util.ArrayList;
import java.util.Arrays;
import java.util.Comparator;
import java.util.HashMap;
import java.util.List;
import java.util.Map;
import java.util.Optional;
import java.util.TreeMap;
import java.util.regex.Matcher;
import java.util.regex.Pattern;
import java.util.stream.IntStream;

/**
 * The document once more, read sentence by sentence and with no thought of room or speed: it keeps what it
 * was told, and works out every answer anew. WholeTest lays it beside the class.
 */
public final class PlainShip {
    private record Cabin(int cls, int berths) { }

    private record Person(int cls, int from, int to, int party) { }

    private record Bet(int pool, int miles, int stake, int watch) { }

    private record Seen(int trunk, int place, int watch, int known, int order) { }

    private record Token(String word, int place) { }

    private record Settled(int stakes, int seamen, int rest, List<Bet> winners, int each, int carried) { }

    private final List<Cabin> cabins = new ArrayList<>();
    private final List<Person> people = new ArrayList<>();
    private final Map<Integer, Integer> berths = new TreeMap<>();
    private final int[][] seats = new int[3][3];
    private final Map<Integer, Integer> wishes = new HashMap<>();
    private final Map<List<Integer>, Map<Integer, Integer>> dinings = new HashMap<>();
    private final Map<Integer, Integer> burns = new HashMap<>();
    private final int[] storms = new int[36];
    private Map<Integer, Integer> runKnots = new TreeMap<>();
    private Map<Integer, Integer> runMade = new TreeMap<>();
    private int arrival = -1;
    private String tape = "";
    private List<List<String>> rules = List.of();
    private int fault = -1;
    private final List<Bet> bets = new ArrayList<>();
    private final Map<Integer, Integer> days = new HashMap<>();
    private int trunks = 0;
    private final List<Seen> seen = new ArrayList<>();
    private final Map<Integer, Integer> ill = new HashMap<>();
    private int status = 0;

    private int refuse(int code) {
        status = code;
        return code;
    }

    private int take(int answer) {
        status = 0;
        return answer;
    }

    private static boolean out(int number, int low, int high) {
        return number < low || number > high;
    }

    private boolean nobody(int person) {
        return out(person, 0, people.size() - 1);
    }

    public int cabin(int cls, int berths) {
        if (out(cls, 0, 2) || out(berths, 1, 4)) {
            return refuse(-1);
        }
        if (cabins.size() == 20) {
            return refuse(-5);
        }
        cabins.add(new Cabin(cls, berths));
        return take(cabins.size() - 1);
    }

    public int person(int cls, int from, int to, int party) {
        if (out(cls, 0, 2) || out(from, 0, 7) || out(to, 0, 7) || to <= from || out(party, -1, 29)) {
            return refuse(-1);
        }
        if (people.size() == 100) {
            return refuse(-5);
        }
        people.add(new Person(cls, from, to, party));
        return take(people.size() - 1);
    }

    private List<Integer> legs(int person) {
        Person p = people.get(person);
        return IntStream.range(p.from, p.to).boxed().toList();
    }

    private List<Integer> inCabin(int cabin, int leg) {
        return berths.keySet().stream().filter(p -> berths.get(p) / 4 == cabin && legs(p).contains(leg)).toList();
    }

    private boolean suits(int cabin, int person) {
        int party = people.get(person).party;
        return legs(person).stream().allMatch(
            leg -> inCabin(cabin, leg).stream().allMatch(other -> people.get(other).party == party));
    }

    private Optional<Integer> freeBerth(int cabin, int person) {
        return IntStream.range(0, cabins.get(cabin).berths).boxed()
            .filter(berth -> legs(person).stream().allMatch(leg -> who(cabin, berth, leg) == -1)).findFirst();
    }

    private boolean keptByParty(int cabin, int person) {
        int party = people.get(person).party;
        return party != -1 && legs(person).stream().anyMatch(
            leg -> inCabin(cabin, leg).stream().anyMatch(other -> people.get(other).party == party));
    }

    public int book(int person) {
        if (nobody(person)) {
            return refuse(-2);
        }
        if (berths.containsKey(person)) {
            return refuse(-3);
        }
        List<Integer> fit = IntStream.range(0, cabins.size()).boxed()
            .filter(c -> cabins.get(c).cls == people.get(person).cls && suits(c, person)
                && freeBerth(c, person).isPresent()).toList();
        if (fit.isEmpty()) {
            return refuse(-3);
        }
        int cabin = fit.stream().filter(c -> keptByParty(c, person)).findFirst().orElse(fit.get(0));
        int place = cabin * 4 + freeBerth(cabin, person).get();
        berths.put(person, place);
        return take(place);
    }

    public int cancel(int person) {
        if (nobody(person)) {
            return refuse(-2);
        }
        return berths.remove(person) == null ? refuse(-3) : take(0);
    }

    public int berth(int person) {
        return berths.getOrDefault(person, -1);
    }

    public int who(int cabin, int berth, int leg) {
        if (out(berth, 0, 3)) {
            return -1;
        }
        return inCabin(cabin, leg).stream().filter(p -> berths.get(p) % 4 == berth).findFirst().orElse(-1);
    }

    private List<Integer> onLeg(int cls, int leg) {
        return berths.keySet().stream().filter(p -> people.get(p).cls == cls && legs(p).contains(leg)).toList();
    }

    public int aboard(int cls, int leg) {
        return out(cls, 0, 2) || out(leg, 0, 6) ? -1 : onLeg(cls, leg).size();
    }

    public int seats(int cls, int a, int b, int c) {
        if (out(cls, 0, 2) || out(a, 0, 100) || out(b, 0, 100) || out(c, 0, 100)) {
            return refuse(-1);
        }
        seats[cls] = new int[] {a, b, c};
        return take(0);
    }

    public int wish(int person, int sitting) {
        if (out(sitting, -1, 2)) {
            return refuse(-1);
        }
        if (nobody(person)) {
            return refuse(-2);
        }
        Integer old = wishes.put(person, sitting);
        return take(old == null ? -1 : old);
    }

    private List<List<Integer>> groups(int leg, int cls) {
        List<List<Integer>> groups = new ArrayList<>();
        for (int p : onLeg(cls, leg)) {
            int party = people.get(p).party;
            Optional<List<Integer>> mine = groups.stream()
                .filter(g -> party != -1 && people.get(g.get(0)).party == party).findFirst();
            mine.ifPresentOrElse(g -> g.add(p), () -> groups.add(new ArrayList<>(List.of(p))));
        }
        return groups;
    }

    public int dine(int leg, int cls) {
        if (out(leg, 0, 6) || out(cls, 0, 2)) {
            return refuse(-1);
        }
        List<List<Integer>> groups = groups(leg, cls);
        if (groups.size() > 10) {
            return refuse(-5);
        }
        Map<Integer, Integer> dining = new HashMap<>();
        int[] left = seats[cls].clone();
        Map<List<Integer>, Integer> known = new HashMap<>();
        int answer = bestFrom(groups, 0, left, known) / 100;
        for (int g = 0; g < groups.size(); g++) {
            int due = bestFrom(groups, g, left, known);
            int sitting = 0;
            while (sitting < 3 && with(groups, g, sitting, left, known) != due) {
                sitting++;
            }
            if (sitting < 3) {
                left[sitting] -= groups.get(g).size();
                for (int p : groups.get(g)) {
                    dining.put(p, sitting);
                }
            }
        }
        dinings.put(List.of(leg, cls), dining);
        return take(answer);
    }

    /** People a hundredfold, and GROUPS as they wish. */
    private int bestFrom(List<List<Integer>> groups, int g, int[] left, Map<List<Integer>, Integer> known) {
        if (g == groups.size()) {
            return 0;
        }
        List<Integer> key = List.of(g, left[0], left[1], left[2]);
        if (!known.containsKey(key)) {
            int best = bestFrom(groups, g + 1, left, known);
            for (int sitting = 0; sitting < 3; sitting++) {
                best = Math.max(best, with(groups, g, sitting, left, known));
            }
            known.put(key, best);
        }
        return known.get(key);
    }

    private int with(List<List<Integer>> groups, int g, int sitting, int[] left, Map<List<Integer>, Integer> known) {
        List<Integer> group = groups.get(g);
        if (group.size() > left[sitting]) {
            return -1;
        }
        int[] then = left.clone();
        then[sitting] -= group.size();
        int wished = wishes.getOrDefault(group.get(0), -1) == sitting ? 1 : 0;
        return 100 * group.size() + wished + bestFrom(groups, g + 1, then, known);
    }

    public int sitting(int leg, int person) {
        if (nobody(person)) {
            return -1;
        }
        return dinings.getOrDefault(List.of(leg, people.get(person).cls), Map.of()).getOrDefault(person, -1);
    }

    public int burn(int knots, int tons) {
        if (out(knots, 0, 24) || out(tons, 0, 1000)) {
            return refuse(-1);
        }
        burns.put(knots, tons);
        return take(0);
    }

    private int tons(int knots) {
        return burns.getOrDefault(knots, 10 * knots);
    }

    public int storm(int from, int to, int part) {
        if (out(from, 0, 35) || out(to, 0, 35) || from > to || out(part, 0, 100)) {
            return refuse(-1);
        }
        for (int w = from; w <= to; w++) {
            storms[w] = part;
        }
        return take(0);
    }

    public int miles(int watch, int knots) {
        return out(watch, 0, 35) || out(knots, 0, 24) ? -1 : 4 * knots * (100 - storms[watch]) / 100;
    }

    public int run(int miles, int from, int to, int a, int b) {
        if (out(miles, 0, 3000) || out(from, 0, 35) || out(to, 0, 35) || to <= from || out(a, 0, 24) || out(b, 0, 24)
            || a > b) {
            return refuse(-1);
        }
        long[][] known = new long[to - from + 2][miles + 1];
        for (long[] row : known) {
            Arrays.fill(row, -1);
        }
        long due = leastFrom(known, from, to, a, b, miles, from);
        if (due == Long.MAX_VALUE) {
            return refuse(-6);
        }
        follow(known, from, to, a, b, miles);
        return take((int) (due / 100));
    }

    /** Tons a hundredfold, and the WATCH of arrival, with so much still to make. */
    private long leastFrom(long[][] known, int from, int to, int a, int b, int rest, int watch) {
        if (watch > to) {
            return rest > 0 ? Long.MAX_VALUE : 0;
        }
        if (rest <= 0) {
            return 100L * (to + 1 - watch) * tons(a);
        }
        if (known[watch - from][rest] == -1) {
            long least = Long.MAX_VALUE;
            for (int k = a; k <= b; k++) {
                least = Math.min(least, at(known, from, to, a, b, rest, watch, k));
            }
            known[watch - from][rest] = least;
        }
        return known[watch - from][rest];
    }

    private long at(long[][] known, int from, int to, int a, int b, int rest, int watch, int knots) {
        int still = rest - miles(watch, knots);
        long behind = leastFrom(known, from, to, a, b, still, watch + 1);
        return behind == Long.MAX_VALUE ? behind : behind + 100L * tons(knots) + (still <= 0 ? watch : 0);
    }

    private void follow(long[][] known, int from, int to, int a, int b, int miles) {
        runKnots = new TreeMap<>();
        runMade = new TreeMap<>();
        arrival = -1;
        int made = 0;
        for (int w = from; w <= to; w++) {
            int knots = a;
            while (made < miles && at(known, from, to, a, b, miles - made, w, knots)
                != leastFrom(known, from, to, a, b, miles - made, w)) {
                knots++;
            }
            boolean arrives = made < miles && made + miles(w, knots) >= miles;
            arrival = arrives ? w : arrival;
            made += miles(w, knots);
            runKnots.put(w, knots);
            runMade.put(w, made);
        }
    }

    public int steamed(int watch, int what) {
        if (watch == -1 && what == 0) {
            return arrival;
        }
        return what == 0 ? runKnots.getOrDefault(watch, -1) : what == 1 ? runMade.getOrDefault(watch, -1) : -1;
    }

    public int feed(int a, int b, int c, int d, int e) {
        if (tape.length() > 180) {
            return -1;
        }
        byte[] twenty = java.nio.ByteBuffer.allocate(20).putInt(a).putInt(b).putInt(c).putInt(d).putInt(e).array();
        tape += new String(twenty, StandardCharsets.ISO_8859_1);
        return tape.length();
    }

    public int end(int n) {
        if (out(n, 0, tape.length())) {
            return -1;
        }
        tape = tape.substring(0, n);
        return n;
    }

    public int rules() {
        List<Token> tokens = new ArrayList<>();
        Matcher matcher = Pattern.compile("[a-z]+|[0-9]+|[^ ]", Pattern.DOTALL).matcher(tape);
        while (matcher.find()) {
            tokens.add(new Token(matcher.group(), matcher.start()));
        }
        boolean blank = tokens.isEmpty();
        tokens.add(new Token("", tape.length()));
        tape = "";
        List<List<String>> read = new ArrayList<>();
        fault = blank ? -1 : faultOf(tokens, read);
        if (fault != -1) {
            return refuse(-6);
        }
        rules = read;
        return take(rules.size());
    }

    /** One TOKEN after the other, each asked whether it can stand behind those of its RULE. */
    private static int faultOf(List<Token> tokens, List<List<String>> read) {
        List<String> rule = new ArrayList<>();
        for (Token token : tokens) {
            String shape = rule.isEmpty() ? "" : rule.get(0);
            boolean whole = rule.size() == (shape.equals("stake") ? 4 : 2);
            if (whole && (token.word.isEmpty() || token.word.equals(";"))) {
                read.add(rule);
                rule = new ArrayList<>();
            } else if (whole || read.size() == 10 || !goesOn(rule, token.word)) {
                return token.place;
            } else {
                rule.add(token.word);
            }
        }
        return -1;
    }

    private static boolean goesOn(List<String> rule, String word) {
        if (rule.isEmpty()) {
            return List.of("pool", "seamen", "close", "stake").contains(word);
        }
        switch (rule.get(0) + rule.size()) {
            case "pool1": return List.of("nearest", "below", "exact").contains(word);
            case "seamen1": return isNumber(word, 0, 100);
            case "close1": return isNumber(word, 0, 35);
            case "stake1": return isNumber(word, 0, 10000);
            case "stake2": return word.equals("to");
            default: return isNumber(word, Integer.parseInt(rule.get(1)), 10000);
        }
    }

    private static boolean isNumber(String word, int low, int high) {
        if (!word.matches("[0-9]+")) {
            return false;
        }
        java.math.BigInteger value = new java.math.BigInteger(word);
        return value.bitLength() < 31 && !out(value.intValue(), low, high);
    }

    public int fault() {
        return fault;
    }

    private String last(String kind, int at, String without) {
        String found = without;
        for (List<String> rule : rules) {
            found = rule.get(0).equals(kind) ? rule.get(at) : found;
        }
        return found;
    }

    private int lastNumber(String kind, int at, int without) {
        return Integer.parseInt(last(kind, at, Integer.toString(without)));
    }

    public int bet(int pool, int person, int miles, int stake, int watch) {
        if (out(pool, 0, 5) || out(miles, 0, 1000) || out(stake, 0, 10000) || out(watch, 0, 35)) {
            return refuse(-1);
        }
        if (nobody(person)) {
            return refuse(-2);
        }
        if (bets.size() == 100) {
            return refuse(-5);
        }
        bets.add(new Bet(pool, miles, stake, watch));
        return take(bets.size() - 1);
    }

    public int day(int pool, int miles) {
        if (out(pool, 0, 5) || out(miles, -1, 1000)) {
            return refuse(-1);
        }
        if (miles == -1) {
            days.remove(pool);
        } else {
            days.put(pool, miles);
        }
        return take(0);
    }

    private Optional<Settled> settle(int pool) {
        if (!days.containsKey(pool)) {
            return Optional.empty();
        }
        Optional<Settled> ahead = pool == 0 ? Optional.empty() : settle(pool - 1);
        if (pool > 0 && ahead.isEmpty()) {
            return Optional.empty();
        }
        List<Bet> valid = bets.stream().filter(b -> b.pool == pool && b.watch <= lastNumber("close", 1, 35)
            && !out(b.stake, lastNumber("stake", 1, 0), lastNumber("stake", 3, 10000))).toList();
        int stakes = valid.stream().mapToInt(Bet::stake).sum();
        int seamen = (int) Math.floor(stakes * (double) lastNumber("seamen", 1, 0) / 100 + 1e-9);
        int rest = stakes - seamen + ahead.map(Settled::carried).orElse(0);
        List<Bet> winners = winners(valid, days.get(pool));
        int each = winners.isEmpty() ? 0 : rest / winners.size();
        return Optional.of(new Settled(stakes, seamen, rest, winners, each, rest - each * winners.size()));
    }

    private List<Bet> winners(List<Bet> valid, int miles) {
        String kind = last("pool", 1, "nearest");
        if (kind.equals("exact")) {
            return valid.stream().filter(b -> b.miles == miles).toList();
        }
        List<Bet> may = valid.stream().filter(b -> kind.equals("nearest") || b.miles <= miles).toList();
        int least = may.stream().mapToInt(b -> Math.abs(b.miles - miles)).min().orElse(0);
        return may.stream().filter(b -> Math.abs(b.miles - miles) == least).toList();
    }

    public int wins(int bet) {
        if (out(bet, 0, bets.size() - 1)) {
            return 0;
        }
        Bet mine = bets.get(bet);
        // Alike BETS win alike, so it does no harm that a record is told by what it holds.
        return settle(mine.pool).map(s -> s.winners.contains(mine) ? s.each : 0).orElse(0);
    }

    public int pool(int pool, int what) {
        return settle(pool).map(s -> switch (what) {
            case 0 -> s.stakes;
            case 1 -> s.seamen;
            case 2 -> s.rest;
            case 3 -> s.winners.size();
            case 4 -> s.carried;
            default -> -1;
        }).orElse(-1);
    }

    public int trunk(int person) {
        if (nobody(person)) {
            return refuse(-2);
        }
        if (trunks == 40) {
            return refuse(-5);
        }
        trunks++;
        return take(trunks - 1);
    }

    public int see(int trunk, int place, int watch, int known) {
        if (out(place, 0, 99) || out(watch, 0, 35) || out(known, 0, 35)) {
            return refuse(-1);
        }
        if (out(trunk, 0, trunks - 1)) {
            return refuse(-2);
        }
        if (seen.size() == 200) {
            return refuse(-5);
        }
        seen.add(new Seen(trunk, place, watch, known, seen.size()));
        return take(seen.size());
    }

    public int where(int trunk, int watch, int known) {
        if (out(watch, 0, 35) || out(known, 0, 35)) {
            return -1;
        }
        return seen.stream().filter(s -> s.trunk == trunk && s.known <= known && s.watch <= watch)
            .max(Comparator.comparing(Seen::watch).thenComparing(Seen::order)).map(Seen::place).orElse(-1);
    }

    public int ill(int person, int leg) {
        if (out(leg, -1, 6)) {
            return refuse(-1);
        }
        if (nobody(person)) {
            return refuse(-2);
        }
        ill.put(person, leg);
        return take(0);
    }

    public int met(int person) {
        if (nobody(person)) {
            return -1;
        }
        for (int leg = 0; leg < 7; leg++) {
            for (int other = 0; other < people.size(); other++) {
                int since = ill.getOrDefault(other, -1);
                if (other != person && since != -1 && since <= leg && together(person, other, leg)) {
                    return 1;
                }
            }
        }
        return 0;
    }

    private boolean together(int one, int other, int leg) {
        for (int cabin = 0; cabin < cabins.size(); cabin++) {
            if (inCabin(cabin, leg).containsAll(List.of(one, other))) {
                return true;
            }
        }
        Map<Integer, Integer> dining = dinings.getOrDefault(List.of(leg, people.get(one).cls), Map.of());
        return dining.containsKey(one) && dining.get(one).equals(dining.get(other));
    }

    public int count(int what) {
        int[] counts = {cabins.size(), people.size(), berths.size(), rules.size(), bets.size(), trunks, seen.size(),
            tape.length()};
        return out(what, 0, 7) ? -1 : counts[what];
    }

    public int status() {
        return status;
    }
}
