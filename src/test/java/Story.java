import java.lang.reflect.InvocationTargetException;
import java.lang.reflect.Method;
import java.util.HashMap;
import java.util.Map;

/** One new object, and what it answers to calls written as the document writes them: "person(0, 3, 7, NONE)". */
final class Story {
    // What an object answers behind its 512th call is free, so no test may lean on it.
    private static final int MOST_CALLS = 512;
    private static final Map<String, Method> FACE = new HashMap<>();

    static {
        for (Method m : SixDays.class.getMethods()) {
            if (m.getDeclaringClass() == SixDays.class) {
                FACE.put(m.getName(), m);
            }
        }
    }

    private final Check check;
    private final String title;
    private final SixDays object = new SixDays();
    private int calls = 0;

    Story(Check check, String title) {
        this.check = check;
        this.title = title;
    }

    Story(Check check, String title, Script ahead) {
        this(check, title);
        after(ahead);
    }

    /** Calls of which none may be refused; only wish() may answer NONE then. */
    Story after(Script script) {
        for (String call : script.calls()) {
            int answer = answer(call);
            if (answer < 0 && !call.startsWith("wish(")) {
                check.due(title + ": ahead of it " + call, answer, 0);
            }
        }
        return this;
    }

    Story after(String... more) {
        return after(new Script().then(more));
    }

    Story due(String call, int want) {
        check.due(title + ": " + call, answer(call), want);
        return this;
    }

    /** Not refused: the answer, and 0 of status(). */
    Story taken(String call, int want) {
        return due(call, want).status(call, 0);
    }

    /** Refused: the code as the answer, and of status(). */
    Story refused(String call, int code) {
        return due(call, code).status(call, code);
    }

    Story status(String of, int want) {
        check.due(title + ": status() behind " + of, answer("status()"), want);
        return this;
    }

    /** The text becomes so many RULES. */
    Story rules(String text, int count) {
        return after(new Script().tape(text)).taken("rules()", count).due("fault()", -1);
    }

    /** The text can't be: there is a FAULT at that place. */
    Story fault(String text, int place) {
        return after(new Script().tape(text)).refused("rules()", -6).due("fault()", place);
    }

    int callsLeft() {
        return MOST_CALLS - calls;
    }

    int answer(String call) {
        calls++;
        if (calls > MOST_CALLS) {
            throw new IllegalStateException(title + ": more than " + MOST_CALLS + " calls");
        }
        int open = call.indexOf('(');
        String inside = call.substring(open + 1, call.length() - 1);
        String[] words = inside.isEmpty() ? new String[0] : inside.split(", ");
        Object[] numbers = new Object[words.length];
        for (int i = 0; i < words.length; i++) {
            numbers[i] = number(words[i]);
        }
        try {
            return (Integer) FACE.get(call.substring(0, open)).invoke(object, numbers);
        } catch (InvocationTargetException thrown) {
            throw new IllegalStateException(title + ": " + call + " threw", thrown.getCause());
        } catch (IllegalAccessException hidden) {
            throw new IllegalStateException(call, hidden);
        }
    }

    private static int number(String word) {
        switch (word) {
            case "NONE": return -1;
            case "LEAST": return Integer.MIN_VALUE;
            case "MOST": return Integer.MAX_VALUE;
            default: return Integer.parseInt(word);
        }
    }
}
