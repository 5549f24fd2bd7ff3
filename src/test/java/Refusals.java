import java.util.List;

/** Calls that must be refused behind a script: by which code, and that they leave all as it was. */
final class Refusals {
    private final Check check;
    private final String title;
    private final Script ahead;
    private final List<String> before;

    Refusals(Check check, String title, Script ahead) {
        this.check = check;
        this.title = title;
        this.ahead = ahead;
        before = Picture.of(check, ahead, null);
    }

    void refused(String call, int code) {
        new Story(check, title, ahead).refused(call, code);
        unchanged(call);
    }

    /** NONE that is no code: status() tells of the call ahead of it. */
    void none(String call) {
        Story story = new Story(check, title, ahead);
        int status = story.answer("status()");
        story.due(call, SixDays.NONE).status(call, status);
        unchanged(call);
    }

    void taken(String call) {
        Story story = new Story(check, title, ahead);
        story.answer(call);
        story.status(call, 0);
    }

    /** The numbers that are taken where the call has "?", from the first to the last; all others are refused. */
    void range(String call, int first, int last, int code) {
        taken(call.replace("?", Integer.toString(first)));
        taken(call.replace("?", Integer.toString(last)));
        refused(call.replace("?", Integer.toString(first - 1)), code);
        refused(call.replace("?", Integer.toString(last + 1)), code);
        refused(call.replace("?", "LEAST"), code);
        refused(call.replace("?", "MOST"), code);
    }

    /** The same for a call without codes, which answers NONE of all others. */
    void rangeOfNone(String call, int first, int last) {
        answers(call.replace("?", Integer.toString(first)));
        answers(call.replace("?", Integer.toString(last)));
        none(call.replace("?", Integer.toString(first - 1)));
        none(call.replace("?", Integer.toString(last + 1)));
        none(call.replace("?", "LEAST"));
        none(call.replace("?", "MOST"));
    }

    private void answers(String call) {
        int answer = new Story(check, title, ahead).answer(call);
        check.due(title + ": " + call + " is not NONE, but", Math.min(answer, 0), 0);
    }

    private void unchanged(String call) {
        List<String> behind = Picture.of(check, ahead, call);
        check.due(title + ": lines of the picture behind " + call, behind.size(), before.size());
        for (int i = 0; i < Math.min(before.size(), behind.size()); i++) {
            if (!before.get(i).equals(behind.get(i))) {
                check.due(title + ": behind " + call + " it is " + behind.get(i) + ", was " + before.get(i), 1, 0);
            }
        }
    }
}
