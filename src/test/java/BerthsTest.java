import java.util.ArrayList;
import java.util.List;
import java.util.Random;

/** Promises 1 to 8: a new object, cabin, person, book, cancel, berth, who, aboard. */
public final class BerthsTest {
    private static final int LOW = Integer.MIN_VALUE;
    private static final int HIGH = Integer.MAX_VALUE;
    private static final Check CHECK = new Check();

    public static void main(String[] args) {
        newObject();
        cabins();
        people();
        lowestBerth();
        partyCabinFirst();
        partyAheadOfLowerCabin();
        partyLegByLeg();
        fourBerths();
        aloneTogether();
        classesApart();
        cancelled();
        wrongBerths();
        drawn();
        CHECK.finish();
    }

    private static void due(String call, int got, int want) {
        CHECK.due(call, got, want);
    }

    private static void newObject() {
        SixDays x = new SixDays();
        for (int what = 0; what < 8; what++) {
            due("new: count(" + what + ")", x.count(what), 0);
        }
        due("new: status()", x.status(), 0);
        due("new: fault()", x.fault(), -1);
        due("new: berth(0)", x.berth(0), -1);
        due("new: who(0, 0, 0)", x.who(0, 0, 0), -1);
        due("new: aboard(0, 0)", x.aboard(0, 0), 0);
        due("new: book(0)", x.book(0), -2);
        due("new: steamed(-1, 0)", x.steamed(-1, 0), -1);
        due("new: steamed(0, 0)", x.steamed(0, 0), -1);
        due("new: sitting(0, 0)", x.sitting(0, 0), -1);
        due("new: pool(0, 0)", x.pool(0, 0), -1);
        due("new: wins(0)", x.wins(0), 0);
        due("new: where(0, 0, 0)", x.where(0, 0, 0), -1);
        due("new: met(0)", x.met(0), -1);
    }

    private static void cabins() {
        SixDays x = new SixDays();
        int[][] wrong = {{-1, 1}, {3, 1}, {0, 0}, {0, 5}, {LOW, 1}, {HIGH, 1}, {0, LOW}, {0, HIGH}};
        for (int[] w : wrong) {
            due("cabin(" + w[0] + ", " + w[1] + ")", x.cabin(w[0], w[1]), -1);
        }
        for (int i = 0; i < 20; i++) {
            due("cabin " + i, x.cabin(i % 3, i % 4 + 1), i);
            due("status() of cabin " + i, x.status(), 0);
        }
        due("cabin 20", x.cabin(0, 1), -5);
        due("status() of no room", x.status(), -5);
        due("a wrong cabin where there is no room", x.cabin(3, 1), -1);
        due("count(0)", x.count(0), 20);
    }

    private static void people() {
        SixDays x = new SixDays();
        int[][] wrong = {{-1, 0, 1, 0}, {3, 0, 1, 0}, {0, -1, 1, 0}, {0, 0, 8, 0}, {0, 2, 2, 0}, {0, 3, 2, 0},
            {0, 8, 9, 0}, {0, 0, 1, -2}, {0, 0, 1, 30}, {LOW, 0, 1, 0}, {0, LOW, 1, 0}, {0, 0, HIGH, 0},
            {0, 0, 1, LOW}, {0, 0, 1, HIGH}, {0, 7, 7, 0}};
        for (int[] w : wrong) {
            due("person(" + w[0] + ", " + w[1] + ", " + w[2] + ", " + w[3] + ")",
                x.person(w[0], w[1], w[2], w[3]), -1);
        }
        for (int i = 0; i < 100; i++) {
            due("person " + i, x.person(i % 3, i % 7, i % 7 + 1, i % 31 - 1), i);
        }
        due("person 100", x.person(0, 0, 1, 0), -5);
        due("a wrong person where there is no room", x.person(0, 1, 1, 0), -1);
        due("count(1)", x.count(1), 100);
    }

    private static void lowestBerth() {
        SixDays x = new SixDays();
        x.cabin(0, 3);
        x.person(0, 0, 3, 1);
        x.person(0, 2, 5, 1);
        x.person(0, 3, 7, 1);
        x.person(0, 5, 7, 1);
        x.person(0, 0, 7, 1);
        x.person(0, 0, 1, 1);
        x.person(0, 0, 1, 1);
        due("book(0)", x.book(0), 0);
        due("book(1)", x.book(1), 1);
        due("book(2) behind 0", x.book(2), 0);
        due("book(3) behind 1", x.book(3), 1);
        due("book(4) all the way", x.book(4), 2);
        due("book(5) ahead of 1", x.book(5), 1);
        due("book(6) without room", x.book(6), -3);
        due("status()", x.status(), -3);
        due("book(4) again", x.book(4), -3);
        due("berth(6)", x.berth(6), -1);
        due("count(2)", x.count(2), 6);
        due("who(0, 0, 2)", x.who(0, 0, 2), 0);
        due("who(0, 0, 3)", x.who(0, 0, 3), 2);
        due("who(0, 1, 1)", x.who(0, 1, 1), -1);
        due("aboard(0, 0)", x.aboard(0, 0), 3);
        due("aboard(0, 1)", x.aboard(0, 1), 2);
        due("aboard(0, 6)", x.aboard(0, 6), 3);
    }

    private static void partyCabinFirst() {
        SixDays x = new SixDays();
        x.cabin(0, 1);
        x.cabin(0, 2);
        x.cabin(0, 2);
        x.person(0, 0, 3, 9);
        x.person(0, 0, 7, 4);
        x.person(0, 0, 7, 4);
        x.person(0, 3, 7, 4);
        x.person(0, 3, 7, -1);
        x.person(0, 3, 7, -1);
        due("party 9 takes cabin 0", x.book(0), 0);
        due("party 4 takes cabin 1", x.book(1), 4);
        due("of party 4 the second goes where the first is", x.book(2), 5);
        due("where party 4 is, there is no berth: the lowest that suits", x.book(3), 0);
        due("one alone into the empty one", x.book(4), 8);
        due("another alone with that one", x.book(5), 9);
        x = new SixDays();
        x.cabin(0, 1);
        x.cabin(0, 4);
        x.person(0, 0, 1, 3);
        x.person(0, 0, 1, 2);
        x.person(0, 2, 3, 2);
        x.person(0, 0, 4, 2);
        x.person(0, 4, 5, 2);
        due("party 3", x.book(0), 0);
        due("party 2 into cabin 1", x.book(1), 4);
        due("party 2, but nobody of it there on this way", x.book(2), 0);
        due("party 2 with the first", x.book(3), 5);
        due("party 2 with nobody again", x.book(4), 0);
    }

    private static void partyAheadOfLowerCabin() {
        SixDays x = new SixDays();
        x.cabin(0, 2);
        x.cabin(0, 3);
        x.person(0, 0, 7, 3);
        x.person(0, 2, 4, 2);
        x.person(0, 0, 2, 2);
        x.person(0, 4, 7, 2);
        x.person(0, 0, 3, 2);
        x.person(0, 3, 7, 2);
        due("party 3 into cabin 0", x.book(0), 0);
        due("party 2 into cabin 1", x.book(1), 4);
        due("cabin 0 is empty again", x.cancel(0), 0);
        due("one of party 2 whose way ends where the first's begins", x.book(2), 0);
        due("one of party 2 whose way begins where the first's ends", x.book(3), 0);
        due("both cabins have one of party 2: the lowest", x.book(4), 1);
        due("cancel(2)", x.cancel(2), 0);
        due("cancel(3)", x.cancel(3), 0);
        due("cancel(4)", x.cancel(4), 0);
        due("with the party, though cabin 0 is empty", x.book(4), 5);
        due("with the party once more", x.book(5), 5);
    }

    private static void fourBerths() {
        SixDays x = new SixDays();
        x.cabin(1, 4);
        x.cabin(1, 4);
        for (int p = 0; p < 8; p++) {
            x.person(1, 0, 7, -1);
            due("book(" + p + ")", x.book(p), p);
        }
        for (int p = 0; p < 8; p++) {
            due("who has " + p, x.who(p / 4, p % 4, 6), p);
        }
        due("who(0, 4, 6)", x.who(0, 4, 6), -1);
        due("who(0, 5, 6)", x.who(0, 5, 6), -1);
        due("who(0, -1, 6)", x.who(0, -1, 6), -1);
        due("who(1, -1, 6)", x.who(1, -1, 6), -1);
        due("who(0, 0, 7)", x.who(0, 0, 7), -1);
        due("who(0, 1, -1)", x.who(0, 1, -1), -1);
        due("aboard(1, 6)", x.aboard(1, 6), 8);
    }

    private static void partyLegByLeg() {
        SixDays x = new SixDays();
        x.cabin(0, 4);
        x.person(0, 2, 4, 6);
        x.person(0, 0, 2, 5);
        x.person(0, 0, 3, 5);
        x.person(0, 4, 7, -1);
        x.person(0, 3, 7, -1);
        x.person(0, 4, 7, 6);
        x.person(0, 1, 4, 6);
        due("party 6 on legs 2, 3", x.book(0), 0);
        due("party 5 on legs 0, 1", x.book(1), 0);
        due("party 5 on leg 2 with party 6", x.book(2), -3);
        due("alone on legs 4 to 6", x.book(3), 0);
        due("alone on leg 3 with party 6", x.book(4), -3);
        due("party 6 with one alone", x.book(5), -3);
        due("party 6 on leg 1 with party 5", x.book(6), -3);
    }

    private static void aloneTogether() {
        SixDays x = new SixDays();
        x.cabin(0, 1);
        x.cabin(0, 4);
        x.person(0, 0, 2, 1);
        x.person(0, 0, 7, -1);
        x.person(0, 2, 4, -1);
        due("party 1", x.book(0), 0);
        due("alone into cabin 1", x.book(1), 4);
        due("alone into the lowest, not to the other that is alone", x.book(2), 0);
    }

    private static void classesApart() {
        SixDays x = new SixDays();
        x.cabin(2, 1);
        x.cabin(1, 1);
        x.person(1, 0, 7, 0);
        x.person(2, 0, 7, 0);
        x.person(0, 0, 7, 0);
        due("class 1", x.book(0), 4);
        due("class 2", x.book(1), 0);
        due("class 0 has no cabin", x.book(2), -3);
        due("aboard(1, 0)", x.aboard(1, 0), 1);
        due("aboard(2, 6)", x.aboard(2, 6), 1);
        due("aboard(0, 0)", x.aboard(0, 0), 0);
    }

    private static void cancelled() {
        SixDays x = new SixDays();
        x.cabin(0, 1);
        x.person(0, 1, 6, 0);
        x.person(0, 0, 7, 1);
        due("cancel without", x.cancel(0), -3);
        due("book", x.book(0), 0);
        due("no room", x.book(1), -3);
        due("cancel", x.cancel(0), 0);
        due("status()", x.status(), 0);
        due("berth(0)", x.berth(0), -1);
        due("who(0, 0, 3)", x.who(0, 0, 3), -1);
        due("aboard(0, 3)", x.aboard(0, 3), 0);
        due("count(2)", x.count(2), 0);
        due("cancel again", x.cancel(0), -3);
        due("book the other", x.book(1), 0);
        due("who(0, 0, 0)", x.who(0, 0, 0), 1);
        due("book the first", x.book(0), -3);
    }

    private static void wrongBerths() {
        SixDays x = new SixDays();
        x.cabin(0, 2);
        x.person(0, 0, 7, 0);
        x.book(0);
        int[] nobody = {-1, 1, 100, LOW, HIGH};
        for (int p : nobody) {
            due("book(" + p + ")", x.book(p), -2);
            due("cancel(" + p + ")", x.cancel(p), -2);
            due("berth(" + p + ")", x.berth(p), -1);
        }
        int[][] spots = {{-1, 0, 0}, {1, 0, 0}, {20, 0, 0}, {0, -1, 0}, {0, 1, 0}, {0, 2, 0}, {0, 4, 0}, {0, 0, -1},
            {0, 0, 7}, {LOW, 0, 0}, {HIGH, HIGH, HIGH}, {0, LOW, 0}, {0, 0, LOW}};
        for (int[] s : spots) {
            due("who(" + s[0] + ", " + s[1] + ", " + s[2] + ")", x.who(s[0], s[1], s[2]), -1);
        }
        int[][] legs = {{-1, 0}, {3, 0}, {0, -1}, {0, 7}, {LOW, LOW}, {HIGH, HIGH}};
        for (int[] l : legs) {
            due("aboard(" + l[0] + ", " + l[1] + ")", x.aboard(l[0], l[1]), -1);
        }
        due("who(0, 0, 0)", x.who(0, 0, 0), 0);
    }

    /** Against the words of the document told once more, plainly, for ships drawn by a fixed seed. */
    private static void drawn() {
        Random random = new Random(8);
        for (int round = 0; round < 150; round++) {
            SixDays x = new SixDays();
            List<int[]> cabins = new ArrayList<>();
            List<int[]> people = new ArrayList<>();
            int classes = 1 + random.nextInt(3);
            int parties = 1 + random.nextInt(5);
            for (int i = 0; i < 3 + random.nextInt(18) && i < 20; i++) {
                int[] cabin = {random.nextInt(classes), 1 + random.nextInt(4)};
                cabins.add(cabin);
                x.cabin(cabin[0], cabin[1]);
            }
            for (int i = 0; i < 60; i++) {
                int from = random.nextInt(7);
                int[] person = {random.nextInt(classes), from, from + 1 + random.nextInt(7 - from),
                    random.nextInt(parties + 1) - 1, -1};
                people.add(person);
                x.person(person[0], person[1], person[2], person[3]);
            }
            for (int i = 0; i < 200; i++) {
                int p = random.nextInt(60);
                int[] person = people.get(p);
                if (random.nextInt(4) == 0) {
                    due("round " + round + ": cancel(" + p + ")", x.cancel(p), person[4] < 0 ? -3 : 0);
                    person[4] = -1;
                } else {
                    int berth = person[4] >= 0 ? -3 : plainBerth(cabins, people, person);
                    due("round " + round + ": book(" + p + ")", x.book(p), berth);
                    person[4] = berth >= 0 ? berth : person[4];
                }
                due("round " + round + ": berth(" + p + ")", x.berth(p), person[4]);
            }
        }
    }

    private static int plainBerth(List<int[]> cabins, List<int[]> people, int[] person) {
        int first = -3;
        for (int c = 0; c < cabins.size(); c++) {
            int free = 0;
            boolean suits = cabins.get(c)[0] == person[0];
            boolean party = false;
            boolean[] taken = new boolean[4];
            for (int[] other : people) {
                boolean meets = other[4] / 4 == c && other[4] >= 0 && other[1] < person[2] && person[1] < other[2];
                if (meets) {
                    taken[other[4] % 4] = true;
                    suits &= other[3] == person[3];
                    party |= other[3] == person[3] && person[3] != -1;
                }
            }
            while (free < 4 && taken[free]) {
                free++;
            }
            if (suits && free < cabins.get(c)[1]) {
                if (party) {
                    return c * 4 + free;
                }
                first = first == -3 ? c * 4 + free : first;
            }
        }
        return first;
    }
}
