/** Seals and opens rows of bytes with ChaCha20-Poly1305 (RFC 8439), a byte a call. */
public final class AeadBox {
    public static final int NONE = -1;

    private static final int FULL = -2;

    private static final int MOST_DATA = 400;
    private static final int MOST_ADDED = 1000;

    private static final int IDLE = 0;
    private static final int ADDING = 1;
    private static final int DATA = 2;
    private static final int DONE = 3;
    private static final int OPENED = 4;

    private static final int TO_SEAL = 0;
    private static final int TO_OPEN = 1;

    private final Stream stream = new Stream();
    private final TagMaker tagMaker = new TagMaker();
    private final int[] results;
    private final int[] expectedTag = new int[TagMaker.TAG_BYTES];
    private int nowPhase = IDLE;
    private int direction = TO_SEAL;
    private int dataCount = 0;
    private int addedCount = 0;

    public AeadBox(int cap) {
        results = new int[Math.max(0, Math.min(MOST_DATA, cap))];
    }

    public boolean setKeyWord(int i, int w) {
        if (nowPhase != IDLE || i < 0 || i >= Stream.KEY_WORDS) {
            return false;
        }
        stream.putKeyWord(i, w);
        return true;
    }

    public boolean setNonceWord(int i, int w) {
        if (nowPhase != IDLE || i < 0 || i >= Stream.NONCE_WORDS) {
            return false;
        }
        stream.putNonceWord(i, w);
        return true;
    }

    public boolean begin(int dir) {
        if (nowPhase != IDLE || (dir != TO_SEAL && dir != TO_OPEN)) {
            return false;
        }
        nowPhase = ADDING;
        direction = dir;
        dataCount = 0;
        addedCount = 0;
        clearExpectedTag();
        stream.makeBlock(0);
        tagMaker.start(stream);
        return true;
    }

    public boolean aad(int b) {
        if (nowPhase != ADDING || !isByte(b) || addedCount >= MOST_ADDED) {
            return false;
        }
        tagMaker.take(b);
        addedCount++;
        return true;
    }

    public int data(int b) {
        if (!takesData() || !isByte(b)) {
            return NONE;
        }
        if (dataCount >= results.length) {
            return FULL;
        }
        if (nowPhase == ADDING) {
            tagMaker.fillUp();
            nowPhase = DATA;
        }
        int result = b ^ nextStreamByte();
        results[dataCount] = result;
        dataCount++;
        // The tag is made of the sealed side, whichever way the data go.
        tagMaker.take(isSealing() ? result : b);
        return isSealing() ? result : 0;
    }

    public boolean finish() {
        if (!takesData()) {
            return false;
        }
        tagMaker.fillUp();
        tagMaker.takeCount(addedCount);
        tagMaker.takeCount(dataCount);
        tagMaker.close();
        nowPhase = DONE;
        return true;
    }

    public boolean expectTag(int i, int b) {
        if (nowPhase != DONE || isSealing() || !isTagIndex(i) || !isByte(b)) {
            return false;
        }
        expectedTag[i] = b;
        return true;
    }

    public boolean verify() {
        if (nowPhase != DONE || isSealing() || !isTagAsExpected()) {
            return false;
        }
        nowPhase = OPENED;
        return true;
    }

    public int tag(int i) {
        if (nowPhase != DONE || !isSealing() || !isTagIndex(i)) {
            return NONE;
        }
        return tagMaker.tagByte(i);
    }

    public int out(int i) {
        if (!tellsResults() || i < 0 || i >= dataCount) {
            return NONE;
        }
        return results[i];
    }

    public int length() {
        return dataCount;
    }

    public int added() {
        return addedCount;
    }

    public int phase() {
        return nowPhase;
    }

    public void reset() {
        nowPhase = IDLE;
    }

    private static boolean isByte(int b) {
        return b >= 0 && b <= 255;
    }

    private static boolean isTagIndex(int i) {
        return i >= 0 && i < TagMaker.TAG_BYTES;
    }

    private boolean isSealing() {
        return direction == TO_SEAL;
    }

    private boolean takesData() {
        return nowPhase == ADDING || nowPhase == DATA;
    }

    private boolean tellsResults() {
        return nowPhase == OPENED || (nowPhase == DONE && isSealing());
    }

    private int nextStreamByte() {
        int place = dataCount % Stream.BLOCK_BYTES;
        if (place == 0) {
            // Block 0 went into the tag, so the data begin with block 1.
            stream.makeBlock(1 + dataCount / Stream.BLOCK_BYTES);
        }
        return stream.blockByte(place);
    }

    private void clearExpectedTag() {
        for (int i = 0; i < expectedTag.length; i++) {
            expectedTag[i] = 0;
        }
    }

    private boolean isTagAsExpected() {
        // All bytes are looked at, so that the time does not tell how many were right.
        int difference = 0;
        for (int i = 0; i < expectedTag.length; i++) {
            difference |= expectedTag[i] ^ tagMaker.tagByte(i);
        }
        return difference == 0;
    }

    /** The ChaCha20 stream of a key and a nonce, one block at a time. */
    private static final class Stream {
        static final int KEY_WORDS = 8;
        static final int NONCE_WORDS = 3;
        static final int BLOCK_BYTES = 64;

        private static final int WORDS = 16;
        private static final int KEY_AT = 4;
        private static final int COUNTER_AT = 12;
        private static final int NONCE_AT = 13;
        private static final int DOUBLE_ROUNDS = 10;

        private final int[] input = new int[WORDS];
        private final int[] block = new int[WORDS];

        Stream() {
            input[0] = 0x61707865;
            input[1] = 0x3320646E;
            input[2] = 0x79622D32;
            input[3] = 0x6B206574;
        }

        void putKeyWord(int i, int w) {
            input[KEY_AT + i] = w;
        }

        void putNonceWord(int i, int w) {
            input[NONCE_AT + i] = w;
        }

        void makeBlock(int counter) {
            input[COUNTER_AT] = counter;
            for (int i = 0; i < WORDS; i++) {
                block[i] = input[i];
            }
            for (int round = 0; round < DOUBLE_ROUNDS; round++) {
                doubleRound();
            }
            for (int i = 0; i < WORDS; i++) {
                block[i] += input[i];
            }
        }

        int blockByte(int i) {
            return (block[i / 4] >>> (8 * (i % 4))) & 255;
        }

        private void doubleRound() {
            quarterRound(0, 4, 8, 12);
            quarterRound(1, 5, 9, 13);
            quarterRound(2, 6, 10, 14);
            quarterRound(3, 7, 11, 15);
            quarterRound(0, 5, 10, 15);
            quarterRound(1, 6, 11, 12);
            quarterRound(2, 7, 8, 13);
            quarterRound(3, 4, 9, 14);
        }

        private void quarterRound(int a, int b, int c, int d) {
            addAndTurn(a, b, d, 16);
            addAndTurn(c, d, b, 12);
            addAndTurn(a, b, d, 8);
            addAndTurn(c, d, b, 7);
        }

        private void addAndTurn(int sum, int addend, int turned, int bits) {
            block[sum] += block[addend];
            int mixed = block[turned] ^ block[sum];
            block[turned] = (mixed << bits) | (mixed >>> (32 - bits));
        }
    }

    /**
     * The Poly1305 tag of a row that comes byte by byte. Numbers are held as 17 bytes,
     * the lowest first, so that every sum of products stays within an int.
     */
    private static final class TagMaker {
        static final int TAG_BYTES = 16;

        private static final int CHUNK = 16;
        private static final int LIMBS = 17;

        private final int[] factor = new int[LIMBS];
        private final int[] addend = new int[CHUNK];
        private final int[] hash = new int[LIMBS];
        private final int[] products = new int[LIMBS];
        private final int[] tagBytes = new int[TAG_BYTES];
        private int taken = 0;

        /** Begins a new row; the stream must stand at its block 0. */
        void start(Stream stream) {
            for (int i = 0; i < CHUNK; i++) {
                factor[i] = stream.blockByte(i) & factorMask(i);
                addend[i] = stream.blockByte(CHUNK + i);
            }
            for (int i = 0; i < LIMBS; i++) {
                hash[i] = 0;
            }
            taken = 0;
        }

        void take(int b) {
            hash[taken] += b;
            taken++;
            if (taken == CHUNK) {
                endChunk();
            }
        }

        /** Ends an open chunk as if 0s had come: they would add nothing to the hash. */
        void fillUp() {
            if (taken > 0) {
                endChunk();
            }
        }

        void takeCount(int count) {
            // A count is not negative and has 31 bits at most, so its upper 4 bytes are 0.
            for (int i = 0; i < 8; i++) {
                take(i < 4 ? (count >>> (8 * i)) & 255 : 0);
            }
        }

        void close() {
            if (reachesModulus()) {
                // Below 2 to the 130, 5 more are the modulus less; the tag leaves out what is above.
                // The carries keep the hash under twice the modulus, so once is enough.
                addSmall(5);
            }
            int carry = 0;
            for (int i = 0; i < TAG_BYTES; i++) {
                carry += hash[i] + addend[i];
                tagBytes[i] = carry & 255;
                carry >>>= 8;
            }
        }

        int tagByte(int i) {
            return tagBytes[i];
        }

        private static int factorMask(int i) {
            if (i % 4 == 3) {
                return 15;
            }
            return i % 4 == 0 && i > 0 ? 252 : 255;
        }

        private void endChunk() {
            // The 2 to the 128 that every chunk has on top of its bytes.
            hash[CHUNK] += 1;
            multiply();
            carryProducts();
            taken = 0;
        }

        private void multiply() {
            for (int i = 0; i < LIMBS; i++) {
                int sum = 0;
                for (int j = 0; j <= i; j++) {
                    sum += hash[j] * factor[i - j];
                }
                for (int j = i + 1; j < LIMBS; j++) {
                    // 2 to the 136 is 64 times 2 to the 130, which counts 5 in this modulus.
                    sum += 320 * hash[j] * factor[LIMBS + i - j];
                }
                products[i] = sum;
            }
        }

        private void carryProducts() {
            int carry = 0;
            for (int i = 0; i < LIMBS; i++) {
                carry += products[i];
                hash[i] = carry & 255;
                carry >>>= 8;
            }
            int above = (carry << 6) | (hash[LIMBS - 1] >>> 2);
            hash[LIMBS - 1] &= 3;
            addSmall(5 * above);
        }

        private void addSmall(int number) {
            int carry = number;
            for (int i = 0; i < LIMBS; i++) {
                carry += hash[i];
                hash[i] = carry & 255;
                carry >>>= 8;
            }
        }

        private boolean reachesModulus() {
            // The modulus is 2 to the 130 less 5: it is reached if 5 more make 2 to the 130.
            int carry = 5;
            for (int i = 0; i < CHUNK; i++) {
                carry = (carry + hash[i]) >>> 8;
            }
            return carry + hash[CHUNK] >= 4;
        }
    }
}
