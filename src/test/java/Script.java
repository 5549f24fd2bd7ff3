import java.util.ArrayList;
import java.util.List;

/** Calls written as the document writes them, to bring a new object to where a test begins. */
final class Script {
    private final List<String> calls = new ArrayList<>();

    Script then(String... more) {
        calls.addAll(List.of(more));
        return this;
    }

    Script then(Script other) {
        calls.addAll(other.calls);
        return this;
    }

    Script times(int n, String call) {
        for (int i = 0; i < n; i++) {
            calls.add(call);
        }
        return this;
    }

    /** The call once for each of the numbers, which stand where it has "?". */
    Script each(int first, int last, String call) {
        for (int n = first; n <= last; n++) {
            calls.add(call.replace("?", Integer.toString(n)));
        }
        return this;
    }

    /** The TAPE, which must be empty, has the text's bytes. */
    Script tape(String text) {
        for (int at = 0; at < text.length(); at += 20) {
            calls.add("feed(" + four(text, at) + ", " + four(text, at + 4) + ", " + four(text, at + 8) + ", "
                + four(text, at + 12) + ", " + four(text, at + 16) + ")");
        }
        calls.add("end(" + text.length() + ")");
        return this;
    }

    List<String> calls() {
        return calls;
    }

    private static int four(String text, int at) {
        int word = 0;
        for (int i = at; i < at + 4; i++) {
            word = word << 8 | (i < text.length() ? text.charAt(i) : ' ');
        }
        return word;
    }
}
