import java.util.ArrayList;
import java.util.List;

/** The states that a call is tried in: each phase in both directions, and each at its edges. */
enum State {
    KEYED(Boxes.TO_SEAL, Boxes.IDLE, 0, 0),
    SEALED_THEN_RESET(Boxes.TO_SEAL, Boxes.IDLE, 2, 3),
    OPENED_THEN_RESET(Boxes.TO_OPEN, Boxes.IDLE, 2, 3),
    BEGUN_TO_SEAL(Boxes.TO_SEAL, Boxes.ADDING, 0, 0),
    BEGUN_TO_OPEN(Boxes.TO_OPEN, Boxes.ADDING, 0, 0),
    ADDED_TO_SEAL(Boxes.TO_SEAL, Boxes.ADDING, 2, 0),
    ADDED_TO_OPEN(Boxes.TO_OPEN, Boxes.ADDING, 2, 0),
    DATA_TO_SEAL(Boxes.TO_SEAL, Boxes.DATA, 2, 3),
    DATA_TO_OPEN(Boxes.TO_OPEN, Boxes.DATA, 2, 3),
    FULL_TO_SEAL(Boxes.TO_SEAL, Boxes.DATA, 2, State.CAP),
    FULL_TO_OPEN(Boxes.TO_OPEN, Boxes.DATA, 2, State.CAP),
    DONE_SEALING(Boxes.TO_SEAL, Boxes.DONE, 2, 3),
    DONE_SEALING_NOTHING(Boxes.TO_SEAL, Boxes.DONE, 0, 0),
    DONE_SEALING_FULL(Boxes.TO_SEAL, Boxes.DONE, 2, State.CAP),
    DONE_OPENING(Boxes.TO_OPEN, Boxes.DONE, 2, 3),
    DONE_OPENING_NOTHING(Boxes.TO_OPEN, Boxes.DONE, 0, 0),
    DONE_EXPECTING(Boxes.TO_OPEN, Boxes.DONE, 2, 3),
    OPENED(Boxes.TO_OPEN, Boxes.OPENED, 2, 3),
    OPENED_NOTHING(Boxes.TO_OPEN, Boxes.OPENED, 0, 0);

    static final int CAP = 4;

    final int dir;
    final int phase;
    final int added;
    final int length;

    State(int dir, int phase, int added, int length) {
        this.dir = dir;
        this.phase = phase;
        this.added = added;
        this.length = length;
    }

    static List<State> all() {
        return List.of(values());
    }

    static List<State> in(int phase) {
        return pick(phase, true);
    }

    static List<State> notIn(int phase) {
        return pick(phase, false);
    }

    private static List<State> pick(int phase, boolean in) {
        ArrayList<State> states = new ArrayList<>();
        for (State state : values()) {
            if ((state.phase == phase) == in) {
                states.add(state);
            }
        }
        return states;
    }

    /** Those of the states that go this way. */
    static List<State> going(int dir, List<State> states) {
        ArrayList<State> going = new ArrayList<>(states);
        going.removeIf(state -> state.dir != dir);
        return going;
    }

    Twin make(Check check, String name) {
        Twin twin = new Twin(check, name, CAP);
        for (int i = 0; i < Boxes.KEY.length; i++) {
            twin.setKeyWord(i, Boxes.KEY[i]);
        }
        for (int i = 0; i < Boxes.NONCE.length; i++) {
            twin.setNonceWord(i, Boxes.NONCE[i]);
        }
        if (this != KEYED) {
            go(twin);
        }
        return twin;
    }

    AeadBox makeBox() {
        return make(new Check(), name()).box;
    }

    private void go(Twin twin) {
        twin.begin(dir);
        for (int i = 0; i < added; i++) {
            twin.aad(1 + i);
        }
        for (int i = 0; i < length; i++) {
            twin.data(101 + i);
        }
        if (phase == Boxes.ADDING || phase == Boxes.DATA) {
            return;
        }
        twin.finish();
        if (this == DONE_EXPECTING || phase == Boxes.OPENED || this == OPENED_THEN_RESET) {
            expectRightTag(twin);
        }
        if (phase == Boxes.OPENED || this == OPENED_THEN_RESET) {
            twin.verify();
        }
        if (phase == Boxes.IDLE) {
            twin.reset();
        }
    }

    private static void expectRightTag(Twin twin) {
        for (int i = 0; i < Oracle.TAG_BYTES; i++) {
            twin.expectTag(i, twin.model.dueTag(i));
        }
    }
}
