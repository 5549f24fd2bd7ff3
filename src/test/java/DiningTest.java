import java.util.ArrayList;
import java.util.List;
import java.util.Random;

/** Promises 9 to 12: seats, wish, dine, sitting. */
public final class DiningTest {
    private static final int LOW = Integer.MIN_VALUE;
    private static final int HIGH = Integer.MAX_VALUE;
    private static final Check CHECK = new Check();

    public static void main(String[] args) {
        seats();
        wishes();
        groupsInOrder();
        wishOfLowestAboard();
        noWishIsNotMet();
        peopleAheadOfWishes();
        tooManyGroups();
        keptAsMade();
        legsAndClassesApart();
        lastPerson();
        fullShip();
        wrongNumbers();
        allRows();
        CHECK.finish();
    }

    private static void due(String call, int got, int want) {
        CHECK.due(call, got, want);
    }

    /** A class 0 ship on which each of the parties has a cabin of four for every four of it. */
    private static SixDays shipOf(int... parties) {
        SixDays x = new SixDays();
        for (int i = 0; i < 20; i++) {
            x.cabin(0, 4);
        }
        for (int i = 0; i < parties.length; i++) {
            x.person(0, 0, 7, parties[i]);
            x.book(i);
        }
        return x;
    }

    private static void seats() {
        SixDays x = shipOf(-1, -1);
        due("dine without seats", x.dine(0, 0), 0);
        due("sitting without seats", x.sitting(0, 0), -1);
        due("seats(0, 100, 0, 100)", x.seats(0, 100, 0, 100), 0);
        due("dine", x.dine(0, 0), 2);
        int[][] wrong = {{-1, 0, 0, 0}, {3, 0, 0, 0}, {0, -1, 0, 0}, {0, 0, -1, 0}, {0, 0, 0, -1}, {0, 101, 0, 0},
            {0, 0, 101, 0}, {0, 0, 0, 101}, {LOW, LOW, LOW, LOW}, {HIGH, HIGH, HIGH, HIGH}};
        for (int[] w : wrong) {
            due("wrong seats", x.seats(w[0], w[1], w[2], w[3]), -1);
            due("status() of wrong seats", x.status(), -1);
        }
        due("seats stay", x.dine(0, 0), 2);
        due("seats of another class", x.seats(1, 0, 0, 0), 0);
        due("seats of class 0 stay", x.dine(0, 0), 2);
        due("seats taken away", x.seats(0, 0, 1, 0), 0);
        due("dine with one seat", x.dine(0, 0), 1);
        due("who dines", x.sitting(0, 0), 1);
    }

    private static void wishes() {
        SixDays x = new SixDays();
        due("wish of nobody", x.wish(0, 0), -2);
        due("status() of nobody", x.status(), -2);
        x.person(0, 0, 1, -1);
        due("first wish", x.wish(0, 2), -1);
        due("status() of first wish", x.status(), 0);
        due("second wish", x.wish(0, 0), 2);
        due("third wish", x.wish(0, -1), 0);
        due("fourth wish", x.wish(0, 1), -1);
        due("status() of fourth wish", x.status(), 0);
        int[] wrong = {-2, 3, LOW, HIGH};
        for (int w : wrong) {
            due("wish(0, " + w + ")", x.wish(0, w), -1);
            due("status() of a wrong wish", x.status(), -1);
            due("a wrong wish of nobody", x.wish(7, w), -1);
        }
        due("wish(-1, 0)", x.wish(-1, 0), -2);
        due("wish(1, 0)", x.wish(1, 0), -2);
        due("the wish stayed", x.wish(0, 1), 1);
    }

    private static void groupsInOrder() {
        SixDays x = shipOf(5, -1, 5, -1);
        x.seats(0, 1, 1, 2);
        due("all dine", x.dine(3, 0), 4);
        due("group of 5", x.sitting(3, 0), 2);
        due("the other of 5", x.sitting(3, 2), 2);
        due("first alone", x.sitting(3, 1), 0);
        due("second alone", x.sitting(3, 3), 1);
        x.seats(0, 0, 1, 0);
        due("one dines", x.dine(3, 0), 1);
        due("the first alone, ahead of the second", x.sitting(3, 1), 1);
        due("the second alone", x.sitting(3, 3), -1);
        due("the party stays whole", x.sitting(3, 0), -1);
    }

    private static void wishOfLowestAboard() {
        SixDays x = new SixDays();
        x.cabin(0, 4);
        x.person(0, 0, 2, 8);
        x.person(0, 0, 7, 8);
        x.book(0);
        x.book(1);
        x.seats(0, 10, 10, 10);
        x.wish(0, 1);
        x.wish(1, 2);
        due("leg 1", x.dine(1, 0), 2);
        due("the lowest's wish", x.sitting(1, 1), 1);
        due("leg 2", x.dine(2, 0), 1);
        due("of those aboard then", x.sitting(2, 1), 2);
        due("who is not aboard", x.sitting(2, 0), -1);
        x.cancel(0);
        due("leg 1 again", x.dine(1, 0), 1);
        due("the lowest that has a berth", x.sitting(1, 1), 2);
    }

    private static void noWishIsNotMet() {
        SixDays x = shipOf(-1, -1);
        x.seats(0, 1, 0, 0);
        due("one seat, no wishes", x.dine(0, 0), 1);
        due("the first has it", x.sitting(0, 0), 0);
        x.wish(1, 0);
        x.dine(0, 0);
        due("a wish has it", x.sitting(0, 1), 0);
        x.wish(1, 1);
        x.dine(0, 0);
        due("a wish for another has not", x.sitting(0, 0), 0);
        x.wish(1, 0);
        x.wish(1, -1);
        x.dine(0, 0);
        due("a wish taken back has not", x.sitting(0, 0), 0);
    }

    private static void peopleAheadOfWishes() {
        SixDays x = shipOf(1, 1, 1, -1, -1);
        x.seats(0, 3, 0, 0);
        x.wish(3, 0);
        x.wish(4, 0);
        due("three dine", x.dine(0, 0), 3);
        due("those without a wish", x.sitting(0, 0), 0);
        due("not two with wishes", x.sitting(0, 3), -1);
    }

    private static void tooManyGroups() {
        SixDays x = shipOf(-1, -1, -1, -1, -1, -1, -1, -1, -1, 3, 3, -1);
        x.seats(0, 100, 0, 0);
        due("eleven groups", x.dine(0, 0), -5);
        due("status()", x.status(), -5);
        x.cancel(11);
        due("ten groups", x.dine(0, 0), 11);
        x.book(11);
        x.seats(0, 0, 100, 0);
        due("eleven again", x.dine(0, 0), -5);
        due("the latest that was made stays", x.sitting(0, 10), 0);
        due("wrong ahead of no room", x.dine(0, 3), -1);
    }

    private static void keptAsMade() {
        SixDays x = shipOf(-1, -1);
        x.seats(0, 1, 1, 0);
        due("made", x.dine(0, 0), 2);
        x.cancel(1);
        x.wish(0, 1);
        x.seats(0, 0, 0, 0);
        due("kept of 0", x.sitting(0, 0), 0);
        due("kept of 1", x.sitting(0, 1), 1);
        x.seats(0, 1, 1, 0);
        due("made again", x.dine(0, 0), 1);
        due("of 0 as wished now", x.sitting(0, 0), 1);
        due("of 1 without a berth", x.sitting(0, 1), -1);
    }

    private static void legsAndClassesApart() {
        SixDays x = new SixDays();
        x.cabin(0, 2);
        x.cabin(1, 2);
        x.person(0, 0, 7, 2);
        x.person(1, 0, 7, 2);
        x.book(0);
        x.book(1);
        x.seats(0, 1, 0, 0);
        x.seats(1, 0, 0, 1);
        due("class 0 alone", x.dine(4, 0), 1);
        due("class 1 not yet", x.sitting(4, 1), -1);
        due("class 1", x.dine(4, 1), 1);
        due("its sitting", x.sitting(4, 1), 2);
        due("class 0 as before", x.sitting(4, 0), 0);
        due("another leg", x.sitting(5, 0), -1);
        due("class 2, nobody", x.dine(4, 2), 0);
        x.seats(0, 0, 0, 0);
        x.seats(1, 0, 1, 0);
        due("class 1 has seats at sitting 1", x.dine(4, 1), 1);
        due("sitting 1 of class 1", x.sitting(4, 1), 1);
        due("class 0 has none", x.dine(4, 0), 0);
    }

    private static void lastPerson() {
        SixDays x = new SixDays();
        x.cabin(2, 1);
        for (int p = 0; p < 100; p++) {
            x.person(2, 0, 7, -1);
        }
        due("book(99)", x.book(99), 0);
        due("wish(99, 2)", x.wish(99, 2), -1);
        x.seats(2, 100, 100, 100);
        for (int leg = 0; leg < 7; leg++) {
            due("dine(" + leg + ", 2)", x.dine(leg, 2), 1);
            due("sitting(" + leg + ", 99)", x.sitting(leg, 99), 2);
            due("sitting(" + leg + ", 100)", x.sitting(leg, 100), -1);
        }
        due("wish(99, -1)", x.wish(99, -1), 2);
    }

    /** Ten groups on eighty berths, where SEATS are full to the last, or more than needed. */
    private static void fullShip() {
        int[] parties = new int[80];
        for (int p = 0; p < 80; p++) {
            parties[p] = p % 10;
        }
        SixDays x = shipOf(parties);
        due("all have berths", x.count(2), 80);
        x.seats(0, 100, 100, 100);
        for (int g = 0; g < 10; g++) {
            x.wish(g, g % 4 == 3 ? -1 : g % 4);
        }
        due("all dine", x.dine(0, 0), 80);
        for (int p = 0; p < 80; p++) {
            int wish = p % 10 % 4;
            due("sitting of " + p, x.sitting(0, p), wish == 3 ? 0 : wish);
        }
        x.seats(0, 31, 31, 18);
        due("eight groups of ten dine", x.dine(0, 0), 64);
        x.seats(0, 7, 7, 7);
        due("none fits", x.dine(0, 0), 0);
        x.seats(0, 100, 0, 0);
        due("all at one sitting", x.dine(0, 0), 80);
    }

    private static void wrongNumbers() {
        SixDays x = shipOf(-1);
        int[][] wrong = {{-1, 0}, {7, 0}, {0, -1}, {0, 3}, {LOW, 0}, {0, HIGH}};
        for (int[] w : wrong) {
            due("dine(" + w[0] + ", " + w[1] + ")", x.dine(w[0], w[1]), -1);
            due("status()", x.status(), -1);
        }
        x.seats(0, 1, 0, 0);
        x.dine(0, 0);
        int[][] none = {{-1, 0}, {7, 0}, {0, -1}, {0, 1}, {0, 100}, {LOW, LOW}, {HIGH, HIGH}};
        for (int[] n : none) {
            due("sitting(" + n[0] + ", " + n[1] + ")", x.sitting(n[0], n[1]), -1);
        }
        due("sitting(0, 0)", x.sitting(0, 0), 0);
    }

    /** Against every row there is, for ships drawn by a fixed seed. */
    private static void allRows() {
        Random random = new Random(6);
        for (int round = 0; round < 400; round++) {
            int groups = 1 + random.nextInt(6);
            List<Integer> parties = new ArrayList<>();
            int[] size = new int[groups];
            int[] first = new int[groups];
            for (int g = 0; g < groups; g++) {
                size[g] = 1 + random.nextInt(1 + random.nextInt(8));
                first[g] = parties.size();
                for (int i = 0; i < size[g]; i++) {
                    parties.add(g);
                }
            }
            SixDays x = shipOf(parties.stream().mapToInt(Integer::intValue).toArray());
            int[] wish = new int[groups];
            for (int g = 0; g < groups; g++) {
                wish[g] = random.nextInt(4) - 1;
                x.wish(first[g], wish[g]);
            }
            int[] seats = {random.nextInt(12), random.nextInt(12), random.nextInt(12)};
            x.seats(0, seats[0], seats[1], seats[2]);
            int[] row = bestRow(size, wish, seats);
            due("round " + round + ": dine", x.dine(0, 0), row[groups]);
            for (int g = 0; g < groups; g++) {
                due("round " + round + ": sitting of group " + g, x.sitting(0, first[g]), row[g]);
            }
        }
    }

    private static int[] bestRow(int[] size, int[] wish, int[] seats) {
        int rows = 1 << 2 * size.length;
        int[] best = null;
        int bestPeople = -1;
        int bestWishes = -1;
        for (int r = 0; r < rows; r++) {
            int[] row = new int[size.length + 1];
            int[] taken = new int[4];
            int wishes = 0;
            for (int g = 0; g < size.length; g++) {
                int s = r >> 2 * (size.length - 1 - g) & 3;
                row[g] = s == 3 ? -1 : s;
                taken[s] += size[g];
                wishes += s != 3 && s == wish[g] ? 1 : 0;
            }
            int people = taken[0] + taken[1] + taken[2];
            boolean fits = taken[0] <= seats[0] && taken[1] <= seats[1] && taken[2] <= seats[2];
            if (fits && (people > bestPeople || people == bestPeople && wishes > bestWishes)) {
                bestPeople = people;
                bestWishes = wishes;
                row[size.length] = people;
                best = row;
            }
        }
        return best;
    }
}
