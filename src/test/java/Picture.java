import java.util.ArrayList;
import java.util.List;

/**
 * All that can be asked of an object, and all that further calls bring to light: two objects with the same
 * picture can't be told apart. Each part is taken of an object of its own, for the 512 calls it has.
 */
final class Picture {
    private final Check check;
    private final Script ahead;
    private final String last;
    private final List<String> lines = new ArrayList<>();

    private Picture(Check check, Script ahead, String last) {
        this.check = check;
        this.ahead = ahead;
        this.last = last;
    }

    /** Behind those calls and, if it is not null, the last one, whatever that answers. */
    static List<String> of(Check check, Script ahead, String last) {
        Picture picture = new Picture(check, ahead, last);
        picture.ask();
        picture.probe();
        return picture.lines;
    }

    private Story begin() {
        Story story = new Story(check, "picture", ahead);
        if (last != null) {
            story.answer(last);
        }
        return story;
    }

    private void note(Story story, String call) {
        lines.add(call + " = " + story.answer(call));
    }

    private void ask() {
        List<String> questions = questions();
        Story story = begin();
        for (String question : questions) {
            if (story.callsLeft() == 0) {
                story = begin();
            }
            note(story, question);
        }
    }

    private List<String> questions() {
        Story story = new Story(check, "picture", ahead);
        int cabins = story.answer("count(0)");
        int people = story.answer("count(1)");
        int bets = story.answer("count(4)");
        int trunks = story.answer("count(5)");
        Script script = new Script().each(0, 7, "count(?)").then("fault()").each(0, people, "berth(?)")
            .each(0, people, "met(?)").each(0, bets, "wins(?)").each(-1, 35, "steamed(?, 0)")
            .each(0, 35, "steamed(?, 1)").each(0, 35, "miles(?, 24)").each(0, 24, "miles(3, ?)");
        for (int leg = 0; leg < 7; leg++) {
            script.each(0, 2, "aboard(?, " + leg + ")").each(0, people, "sitting(" + leg + ", ?)");
            for (int berth = 0; berth < 4; berth++) {
                script.each(0, cabins, "who(?, " + berth + ", " + leg + ")");
            }
        }
        for (int pool = 0; pool < 6; pool++) {
            script.each(0, 4, "pool(" + pool + ", ?)");
        }
        for (int trunk = 0; trunk <= trunks; trunk++) {
            script.each(0, 35, "where(" + trunk + ", ?, 35)").each(0, 34, "where(" + trunk + ", 35, ?)");
        }
        return script.calls();
    }

    private void probe() {
        probe(new Script().each(0, 100, "wish(?, 0)"));
        for (int cls = 0; cls < 3; cls++) {
            probe(new Script().each(0, 6, "dine(?, " + cls + ")").each(0, 6, "sitting(?, 0)").each(0, 6, "sitting(?, 4)"));
        }
        Script coal = new Script();
        for (int k = 0; k < 25; k++) {
            coal.then("run(0, 0, 1, " + k + ", " + k + ")");
        }
        probe(coal.then("run(900, 0, 35, 0, 24)").each(-1, 35, "steamed(?, 0)"));
        Script days = new Script().each(0, 5, "day(?, 200)");
        for (int pool = 0; pool < 6; pool++) {
            days.each(0, 4, "pool(" + pool + ", ?)");
        }
        probe(days.then("rules()", "fault()").each(0, 4, "pool(5, ?)").each(0, 100, "wins(?)"));
        probe(new Script().each(0, 99, "book(?)").each(0, 99, "met(?)"));
        probe(new Script().then("cabin(0, 1)", "person(0, 0, 1, NONE)", "trunk(0)", "see(0, 0, 0, 0)",
            "bet(0, 0, 0, 0, 0)", "feed(0, 0, 0, 0, 0)", "rules()", "fault()"));
    }

    private void probe(Script script) {
        Story story = begin();
        for (String call : script.calls()) {
            note(story, call);
        }
    }
}
