import java.lang.reflect.InvocationTargetException;
import java.lang.reflect.Method;
import java.lang.reflect.Modifier;
import java.util.Collection;
import java.util.TreeMap;
import java.util.function.Predicate;
import java.util.function.ToIntFunction;

/** Tests of one matter: each method that is not private and takes nothing is a test and is run. */
abstract class Tests {
    private final Check check = new Check();
    private String running = "";

    final void runAll() throws IllegalAccessException {
        Collection<Method> tests = collect();
        for (Method test : tests) {
            running = test.getName();
            run(test);
        }
        System.out.print(tests.size() + " tests: ");
        check.end();
    }

    private Collection<Method> collect() {
        TreeMap<String, Method> tests = new TreeMap<>();
        for (Method method : getClass().getDeclaredMethods()) {
            boolean own = (method.getModifiers() & (Modifier.PRIVATE | Modifier.STATIC)) == 0;
            if (own && !method.isSynthetic() && method.getParameterCount() == 0) {
                tests.put(method.getName(), method);
            }
        }
        return tests.values();
    }

    private void run(Method test) throws IllegalAccessException {
        try {
            test.invoke(this);
        } catch (InvocationTargetException e) {
            // No call of the box throws, so this is a wrong answer as well; the other tests go on.
            due("the test without " + e.getCause(), false, true);
        }
    }

    final void due(String call, int got, int want) {
        check.due(running + ": " + call, got, want);
    }

    final void due(String call, boolean got, boolean want) {
        check.due(running + ": " + call, got, want);
    }

    final void dueTag(AeadBox box, byte[] tag) {
        for (int i = 0; i < tag.length; i++) {
            due("tag(" + i + ")", box.tag(i), tag[i] & 255);
        }
    }

    /** What came of the data is this row, and there is nothing before and behind it. */
    final void dueOut(AeadBox box, byte[] row) {
        due("out(-1)", box.out(-1), -1);
        for (int i = 0; i < row.length; i++) {
            due("out(" + i + ")", box.out(i), row[i] & 255);
        }
        due("out(" + row.length + ")", box.out(row.length), -1);
    }

    /** A box that is IDLE and has the shared key and nonce seals these rows, with nothing left from before. */
    final void dueSeals(AeadBox box, byte[] added, byte[] plain) {
        due("begin(0)", box.begin(Boxes.TO_SEAL), true);
        Boxes.putIn(box, added, plain);
        dueOut(box, Boxes.crossed(plain));
        dueTag(box, Boxes.tagOfPlain(added, plain));
    }

    final void dueNothingTold(String when, AeadBox box) {
        for (int i = -1; i <= 16; i++) {
            due("tag(" + i + ") " + when, box.tag(i), -1);
            due("out(" + i + ") " + when, box.out(i), -1);
        }
    }

    final void dueStanding(String when, AeadBox box, int phase, int added, int length) {
        due("phase() " + when, box.phase(), phase);
        due("added() " + when, box.added(), added);
        due("length() " + when, box.length(), length);
    }

    final void dueFalse(Collection<State> states, String call, Predicate<AeadBox> made) {
        dueRefused(0, states, call, box -> made.test(box) ? 1 : 0);
    }

    /**
     * In each of the states the call must answer so and change nothing: the counts and the phase
     * stay, and whatever is called later answers as on a model that never got the call.
     */
    final void dueRefused(int answer, Collection<State> states, String call, ToIntFunction<AeadBox> made) {
        due("there are states to try " + call, states.isEmpty(), false);
        for (State state : states) {
            for (Later later : Later.values()) {
                String name = call + " in " + state;
                Twin twin = state.make(check, running + ": " + name + ", then " + later);
                due(name, made.applyAsInt(twin.box), answer);
                dueStanding("after " + name, twin.box, state.phase, state.added, state.length);
                later.follow(twin);
            }
        }
    }
}
