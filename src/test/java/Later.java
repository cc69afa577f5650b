/** Ways to go on with a box, which show together whatever an earlier call may have changed in it. */
enum Later {
    LOOK,
    ADD_MORE,
    GIVE_MORE,
    VERIFY,
    FINISH_AND_OPEN,
    BEGIN,
    SEAL_AGAIN,
    OPEN_AGAIN;

    void follow(Twin twin) {
        switch (this) {
            case ADD_MORE -> addMore(twin);
            case GIVE_MORE -> giveMore(twin);
            case VERIFY -> twin.verify();
            case FINISH_AND_OPEN -> finishAndOpen(twin);
            case BEGIN -> begin(twin, Boxes.TO_SEAL);
            case SEAL_AGAIN -> again(twin, Boxes.TO_SEAL);
            case OPEN_AGAIN -> again(twin, Boxes.TO_OPEN);
            default -> { }
        }
        look(twin);
    }

    private static void look(Twin twin) {
        twin.phase();
        twin.length();
        twin.added();
        for (int i = -1; i <= Oracle.TAG_BYTES; i++) {
            twin.tag(i);
        }
        for (int i = -1; i <= State.CAP; i++) {
            twin.out(i);
        }
    }

    private static void addMore(Twin twin) {
        twin.aad(55);
        giveMore(twin);
    }

    private static void giveMore(Twin twin) {
        for (int i = 0; i <= State.CAP; i++) {
            twin.data(66);
        }
        finishAndOpen(twin);
    }

    /** Verifies before the tag is set, with one byte missing, and with all of it. */
    private static void finishAndOpen(Twin twin) {
        twin.finish();
        look(twin);
        twin.verify();
        for (int i = 1; i <= Oracle.TAG_BYTES; i++) {
            int place = i % Oracle.TAG_BYTES;
            twin.expectTag(place, twin.model.dueTag(place));
            if (i == Oracle.TAG_BYTES - 1) {
                twin.verify();
            }
        }
        twin.verify();
    }

    private static void begin(Twin twin, int dir) {
        twin.begin(dir);
        look(twin);
        addMore(twin);
    }

    private static void again(Twin twin, int dir) {
        twin.reset();
        look(twin);
        begin(twin, dir);
    }
}
