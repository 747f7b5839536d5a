import java.lang.reflect.InvocationTargetException;
import java.lang.reflect.Method;
import java.util.ArrayList;
import java.util.Arrays;
import java.util.HashMap;
import java.util.List;
import java.util.Map;

/**
 * A survey under test. It calls the class by name, so that what it prints is what it called; it
 * keeps to the document's 512 calls of an object; and it can tell whether a call changed anything.
 */
final class Survey {
    /** The document's limit. */
    static final int MOST_CALLS = 512;

    private static final Map<String, Method> METHODS = methods();

    private final AerialSurvey survey = new AerialSurvey();
    private final List<Call> calls = new ArrayList<>();

    private static final class Call {
        final String name;
        final Object[] arguments;

        Call(String name, Object[] arguments) {
            this.name = name;
            this.arguments = arguments;
        }

        @Override
        public String toString() {
            String text = Arrays.toString(arguments);
            return name + "(" + text.substring(1, text.length() - 1) + ")";
        }
    }

    private static Map<String, Method> methods() {
        Map<String, Method> methods = new HashMap<>();
        for (Method method : AerialSurvey.class.getDeclaredMethods()) {
            if (java.lang.reflect.Modifier.isPublic(method.getModifiers())) {
                methods.put(method.getName(), method);
            }
        }
        return methods;
    }

    /** Makes a call and returns its answer. */
    int ask(String name, Object... arguments) {
        return make(new Call(name, arguments));
    }

    private int make(Call call) {
        calls.add(call);
        if (calls.size() > MOST_CALLS) {
            throw new IllegalStateException("the test makes more calls than the document allows");
        }
        try {
            return (Integer) METHODS.get(call.name).invoke(survey, call.arguments);
        } catch (InvocationTargetException thrown) {
            Due.fail(call + " threw " + thrown.getCause() + " after " + calls);
            return Integer.MIN_VALUE;
        } catch (IllegalAccessException impossible) {
            throw new IllegalStateException(impossible);
        }
    }

    /** Makes a call on the way to what is tested; it must not be refused. */
    Survey with(String name, Object... arguments) {
        Call call = new Call(name, arguments);
        int answer = make(call);
        if (answer < 0) {
            Due.fail(call + " was refused with " + answer + " after " + calls);
        }
        return this;
    }

    /** Makes a call whose answer is known. */
    Survey due(int want, String name, Object... arguments) {
        Call call = new Call(name, arguments);
        int answer = make(call);
        if (answer != want) {
            Due.fail(call + " answered " + answer + ", due is " + want + ", after " + shown());
        }
        return this;
    }

    /**
     * The answer of a call that changes nothing: one that is refused, or one that only asks. It is
     * made on a copy of this survey, and then the copy is compared with one without that call.
     */
    Survey unchangedBy(int want, String name, Object... arguments) {
        Survey other = copy().due(want, name, arguments);
        int[] state = other.state(this);
        int[] due = copy().state(this);
        if (!Arrays.equals(state, due)) {
            Due.fail(new Call(name, arguments) + " changed the survey after " + shown());
        }
        return this;
    }

    /** The same for a call that reports an error. */
    Survey refused(int error, String name, Object... arguments) {
        if (error >= 0) {
            throw new IllegalStateException("an error is negative");
        }
        return unchangedBy(error, name, arguments);
    }

    /** A new survey after the same calls. */
    Survey copy() {
        Survey copy = new Survey();
        for (Call call : calls) {
            copy.make(call);
        }
        return copy;
    }

    /** The row of a strip: on a copy seen from so low that a photo sees no cell but its own. */
    int rowOf(int strip) {
        Survey low = copy();
        low.lookDown();
        for (int row = 0; row < 10; row++) {
            if (low.ask("seesCell", strip, 0, row, low.ask("photoColumn", strip, 0)) == 1) {
                return row;
            }
        }
        return -1;
    }

    /** Below this, a photo sees its own cell alone, at any height but 999. */
    private void lookDown() {
        ask("setAltitude", 999);
        ask("setFields", 1, 1);
        ask("setCrab", 0);
    }

    /** All that the survey holds, told by 287 calls; they leave it in another state. */
    private int[] state(Survey settings) {
        List<Integer> state = new ArrayList<>();
        for (int row = 0; row < 10; row++) {
            for (int column = 0; column < 16; column++) {
                state.add(ask("height", row, column));
            }
        }
        state.add(ask("stripCount"));
        int[] first = new int[8];
        for (int strip = 0; strip < 8; strip++) {
            first[strip] = ask("photoColumn", strip, 0);
            state.add(first[strip]);
            state.add(ask("photoColumn", strip, 1));
            state.add(ask("photoCount", strip));
            state.add(ask("stripTime", strip, true));
            state.add(ask("stripTime", strip, false));
        }
        state.add(ask("setAltitude", 1000));
        state.add(make(settings.last("setFields", 3, 2)));
        state.add(make(settings.last("setCrab", 0)));
        state.add(make(settings.last("setSpeed", 100, 0, 60)));
        lookDown();
        for (int strip = 0; strip < 8; strip++) {
            for (int row = 0; row < 10; row++) {
                state.add(ask("seesCell", strip, 0, row, first[strip]));
            }
        }
        return state.stream().mapToInt(Integer::intValue).toArray();
    }

    /** The last call of this name, or one with a new survey's values: it answers 0 when repeated. */
    private Call last(String name, Object... values) {
        Call last = new Call(name, values);
        for (Call call : calls) {
            if (call.name.equals(name)) {
                last = call;
            }
        }
        return last;
    }

    private String shown() {
        int from = Math.max(0, calls.size() - 12);
        return (from > 0 ? ".. " : "") + calls.subList(from, calls.size());
    }
}
