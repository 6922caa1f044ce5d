import java.io.IOException;
import java.nio.file.Files;
import java.nio.file.Path;
import java.util.ArrayList;
import java.util.LinkedHashMap;
import java.util.List;
import java.util.Map;
import java.util.Set;
import java.util.TreeSet;

/** Keeps the sentences of the document that are tested, and tells under which one an answer is wrong. */
final class Sheet {
    static final Class<? extends RuntimeException> INDEX = IndexOutOfBoundsException.class;
    static final Class<? extends RuntimeException> ARGUMENT = IllegalArgumentException.class;
    static final Class<? extends RuntimeException> STATE = IllegalStateException.class;

    private static final Path DOCUMENT = Path.of("..", "shared", "DOC.md");

    /** The face is compared by FaceTest; what is not promised can't be tested. */
    private static final List<String> ELSEWHERE = List.of("The public face", "Not promised");

    private final Map<String, List<String>> quoted = new LinkedHashMap<>();
    private String place = "";
    private String sentence = "";
    private int tests;
    private int checks;
    private int wrong;

    interface Call {
        void run();
    }

    interface ProbeCall {
        void run(VlanProbe x);
    }

    interface FrameCall {
        int of(int frame);
    }

    // ---- sentences

    /** The heading, as in the document, of the sentences that are tested from now on. */
    void place(String heading) {
        place = heading;
    }

    void test(String quote, Call body) {
        sentence = quote;
        checks = 0;
        tests++;
        cross(quote);
        try {
            body.run();
        } catch (RuntimeException e) {
            tell("threw " + e);
        }
        if (checks == 0) {
            tell("nothing was tested");
        }
    }

    /** A sentence that names nothing that a call could answer wrongly. */
    void untested(String quote) {
        cross(quote);
    }

    private void cross(String quote) {
        quoted.computeIfAbsent(place, heading -> new ArrayList<>()).add(quote);
    }

    /** Ends with exit code 1 if an answer was wrong, or a sentence of the document has no test. */
    void end() {
        compareWithDocument();
        System.out.println(wrong == 0 ? tests + " sentences hold" : wrong + " answers are wrong");
        if (wrong != 0) {
            System.exit(1);
        }
    }

    private void compareWithDocument() {
        String document;
        try {
            document = Files.readString(DOCUMENT);
        } catch (IOException e) {
            System.out.println("the sentences are not compared with the document, which is not there");
            return;
        }
        String[] sections = document.split("\n## ");
        for (int k = 1; k < sections.length; k++) {
            String heading = sections[k].lines().findFirst().orElse("");
            if (!ELSEWHERE.contains(heading)) {
                compareSection(heading, sections[k].substring(heading.length()));
            }
        }
    }

    /** Longer quotes go first, for a short one may stand inside of a longer one. */
    private void compareSection(String heading, String section) {
        List<String> quotes = new ArrayList<>(quoted.getOrDefault(heading, List.of()));
        quotes.sort((one, two) -> two.length() - one.length());
        place = heading;
        String rest = section;
        for (String quote : quotes) {
            sentence = quote;
            if (!section.contains(quote)) {
                tell("the document does not say so");
            }
            rest = rest.replace(quote, "\n");
        }
        for (String line : rest.split("\n")) {
            String left = line.replaceAll("^`[^`]*`:", "").replaceAll("[-,;:.\\s]|^ *[1-4]\\.", "");
            if (!left.isEmpty()) {
                sentence = line.strip();
                tell("has no test");
            }
        }
    }

    // ---- answers

    void is(String what, long got, long due) {
        checks++;
        if (got != due) {
            tell(what + " answered " + got + ", due is " + due);
        }
    }

    void is(String what, boolean got, boolean due) {
        is(what, got ? 1 : 0, due ? 1 : 0);
    }

    void same(String what, String got, String due) {
        checks++;
        if (!got.equals(due)) {
            tell(what + " is\n    " + got + "\n  due is\n    " + due);
        }
    }

    void refused(String what, Class<? extends RuntimeException> due, Call call) {
        checks++;
        Class<?> got = null;
        try {
            call.run();
        } catch (RuntimeException e) {
            got = e.getClass();
        }
        if (got != due) {
            tell(what + " threw " + (got == null ? "nothing" : got.getSimpleName())
                    + ", due is " + due.getSimpleName());
        }
    }

    /** The call is refused, and everything is after it as it was. */
    void changesNothing(VlanProbe x, String what, Class<? extends RuntimeException> due, ProbeCall call) {
        String before = Probes.stateOf(x);
        refused(what, due, () -> call.run(x));
        same("what can be asked after " + what, Probes.stateOf(x), before);
    }

    /** Frames have the numbers from 0 to one below this, and no others. */
    void onlyFrames(String name, int frames, FrameCall call) {
        for (int frame : outside(0, frames - 1)) {
            refused(name + "(" + frame + ") of " + frames, INDEX, () -> call.of(frame));
        }
    }

    private void tell(String what) {
        wrong++;
        System.out.println(place + ", \"" + sentence + "\": " + what);
    }

    /** Values out of a range: just beside it, far off, and such as are in it but for their high bits. */
    static int[] outside(int low, int high) {
        Set<Integer> values = new TreeSet<>();
        for (int value : new int[] {low, high}) {
            for (int shift : new int[] {0, 1, 2, 8, 16, 32, 64, 256, 65536, Integer.MIN_VALUE}) {
                values.add(value + shift);
                values.add(value - shift);
            }
            values.add(-value);
            values.add(~value);
        }
        for (int value : new int[] {-1, 0, 59, 60, 61, Integer.MIN_VALUE, Integer.MAX_VALUE}) {
            values.add(value);
        }
        values.removeIf(value -> value >= low && value <= high);
        int[] result = new int[values.size()];
        int size = 0;
        for (int value : values) {
            result[size++] = value;
        }
        return result;
    }
}
