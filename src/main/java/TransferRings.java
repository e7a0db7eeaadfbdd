/**
 * Bytes carried by letters in rings: four channels, each with a ring of six slots, share 64 bytes.
 *
 * <p>The words in capitals are those of the document. What a text is made of is called signs here,
 * so that a letter is always a LETTER of a SLOT. All rows are made in constructors: no call makes
 * an object.
 */
public final class TransferRings {
    public static final int BAD = -1, STATE = -2, FULL = -3, NONE = -9;

    private static final int ADDRESSES = 64, CHANNELS = 4, SLOTS = 6;
    private static final int MOST_RANK = 3, MOST_BURST = 8;
    private static final int MOST_TICKS = 40, FAR_TICKS = 200;
    private static final int IMAGES = 2;
    private static final int FAULT_BASE = -10;

    private final Text text;
    private final Engine now;
    /** Where what would be is tried out, so that nothing is changed. */
    private final Engine trial;
    private final History history;
    private final Sightings sightings;
    private final Engine[] images;
    private final boolean[] imageKept;

    public TransferRings() {
        text = new Text();
        now = new Engine();
        trial = new Engine();
        history = new History();
        sightings = new Sightings();
        images = new Engine[IMAGES];
        for (int i = 0; i < IMAGES; i++) {
            images[i] = new Engine();
        }
        imageKept = new boolean[IMAGES];
    }

    // ---- what is told

    public int type(int letter) {
        if (!within(letter, 0, 255)) {
            return BAD;
        }
        return text.append(letter) ? text.length : FULL;
    }

    public int clear() {
        int had = text.length;
        text.wipe();
        return had;
    }

    public int posts() {
        int fault = text.read();
        if (fault != Text.NO_FAULT) {
            return FAULT_BASE - fault;
        }
        trial.copyFrom(now);
        for (int i = 0; i < text.itemCount; i++) {
            if (!trial.take(text, i)) {
                return FULL;
            }
        }
        history.remember(now);
        now.copyFrom(trial);
        text.wipe();
        return text.itemCount;
    }

    // ---- what is done

    public int ticks(int n) {
        if (!within(n, 1, MOST_TICKS)) {
            return BAD;
        }
        history.remember(now);
        int grants = 0;
        for (int i = 0; i < n; i++) {
            if (now.tick(true) != NONE) {
                grants++;
            }
        }
        return grants;
    }

    public int cancels(int channel) {
        if (!isChannel(channel)) {
            return BAD;
        }
        if (now.presentOf(channel) == NONE) {
            return STATE;
        }
        history.remember(now);
        return now.cancel(channel);
    }

    public int switches(int channel) {
        if (!isChannel(channel)) {
            return BAD;
        }
        history.remember(now);
        int on = 1 - now.ofChannel(channel, Engine.ON);
        now.setChannel(channel, Engine.ON, on);
        return on;
    }

    public int tunes(int channel, int rank, int burst) {
        if (!isChannel(channel) || !within(rank, 0, MOST_RANK) || !within(burst, 1, MOST_BURST)) {
            return BAD;
        }
        if (now.ofChannel(channel, Engine.RANK) == rank && now.ofChannel(channel, Engine.BURST) == burst) {
            return STATE;
        }
        history.remember(now);
        now.setChannel(channel, Engine.RANK, rank);
        now.setChannel(channel, Engine.BURST, burst);
        return 1;
    }

    public int undo() {
        return history.restore(now) ? history.known : STATE;
    }

    // ---- asked

    public int at(int address) {
        return within(address, 0, ADDRESSES - 1) ? now.memory[address] : BAD;
    }

    public int channel(int channel, int what) {
        if (!isChannel(channel)) {
            return BAD;
        }
        switch (what) {
            case 0: return now.ofChannel(channel, Engine.ON);
            case 1: return now.ofChannel(channel, Engine.RANK);
            case 2: return now.ofChannel(channel, Engine.BURST);
            case 3: return now.ofChannel(channel, Engine.POST);
            case 4: return now.ofChannel(channel, Engine.HEAD);
            case 5: return presentResidue(channel);
            case 6: return now.ofChannel(channel, Engine.TRANSFERS);
            case 7: return now.ofChannel(channel, Engine.GRANTS);
            case 8: return now.isReady(channel) ? 1 : 0;
            default: return BAD;
        }
    }

    public int slot(int channel, int slot, int what) {
        if (!isSlot(channel, slot) || !within(what, 0, 5)) {
            return BAD;
        }
        int place = Engine.placeOf(channel, slot);
        if (!now.hasLetter(place)) {
            return NONE;
        }
        switch (what) {
            case 0: return now.ofLetter(place, Engine.OWNER);
            case 1: return now.ofLetter(place, Engine.STATUS);
            case 2: return now.ofLetter(place, Engine.RESIDUE);
            case 3: return now.unitsOf(place);
            case 4: return now.ofLetter(place, Engine.CHAINED);
            default: return now.ofLetter(place, Engine.WAITS);
        }
    }

    public int unit(int channel, int slot, int k, int way) {
        if (!isSlot(channel, slot) || k < 0 || !within(way, 0, 1)) {
            return BAD;
        }
        int place = Engine.placeOf(channel, slot);
        if (!now.hasLetter(place) || k >= now.unitsOf(place)) {
            return NONE;
        }
        return now.addressOf(place, k, way);
    }

    public int waiting(int i) {
        if (i < 0) {
            return BAD;
        }
        if (i >= now.queued) {
            return NONE;
        }
        int place = now.queue[i];
        return 8 * (place / SLOTS) + place % SLOTS;
    }

    public int both(int channel, int slot, int other, int otherSlot) {
        if (!isSlot(channel, slot) || !isSlot(other, otherSlot)) {
            return BAD;
        }
        int one = Engine.placeOf(channel, slot);
        int two = Engine.placeOf(other, otherSlot);
        if (!now.hasLetter(one) || !now.hasLetter(two)) {
            return NONE;
        }
        return Long.bitCount(now.writtenBy(one) & now.writtenBy(two));
    }

    // ---- what would be

    public int over(int channel) {
        if (!isChannel(channel)) {
            return BAD;
        }
        trial.copyFrom(now);
        return ticksUntilOver(channel, FAR_TICKS);
    }

    public int lands(int address) {
        return within(address, 0, ADDRESSES - 1) ? now.unitsBoundFor(address) : BAD;
    }

    public int enough(int channel, int n) {
        if (!isChannel(channel) || !within(n, 0, FAR_TICKS)) {
            return BAD;
        }
        for (int burst = 1; burst <= MOST_BURST; burst++) {
            trial.copyFrom(now);
            trial.setChannel(channel, Engine.BURST, burst);
            if (ticksUntilOver(channel, n) != NONE) {
                return burst;
            }
        }
        return NONE;
    }

    public int granted(int k) {
        if (!within(k, 1, MOST_TICKS)) {
            return BAD;
        }
        trial.copyFrom(now);
        for (int i = 1; i < k; i++) {
            trial.tick(false);
        }
        return trial.tick(false);
    }

    // ---- of which rank

    public int sees(int k, int channel) {
        if (!within(k, 1, MOST_TICKS) || !(isChannel(channel) || channel == NONE)) {
            return BAD;
        }
        return sightings.note(k, channel) ? sightings.seen : FULL;
    }

    public int forget() {
        int was = sightings.seen;
        sightings.drop();
        return was;
    }

    public int ranks(int channel) {
        if (!isChannel(channel)) {
            return BAD;
        }
        int bits = 0;
        for (int rank = 0; rank <= MOST_RANK; rank++) {
            trial.copyFrom(now);
            trial.setChannel(channel, Engine.RANK, rank);
            if (sightings.comeTrue(trial)) {
                bits |= 1 << rank;
            }
        }
        return bits;
    }

    // ---- images

    public int keep(int image) {
        if (!within(image, 0, IMAGES - 1)) {
            return BAD;
        }
        images[image].copyFrom(now);
        imageKept[image] = true;
        return now.engineLetters();
    }

    public int back(int image) {
        if (!within(image, 0, IMAGES - 1)) {
            return BAD;
        }
        if (!imageKept[image]) {
            return STATE;
        }
        now.copyFrom(images[image]);
        history.lose();
        return now.engineLetters();
    }

    public int count(int what) {
        switch (what) {
            case 0: return now.engineLetters();
            case 1: return now.queued;
            case 2: return now.lastGranted;
            case 3: return sightings.seen;
            case 4: return text.length;
            case 5: return history.known;
            case 6: return now.ticksGone;
            default: return BAD;
        }
    }

    // ---- helpers

    private static boolean within(int value, int least, int most) {
        return value >= least && value <= most;
    }

    private static boolean isChannel(int channel) {
        return within(channel, 0, CHANNELS - 1);
    }

    private static boolean isSlot(int channel, int slot) {
        return isChannel(channel) && within(slot, 0, SLOTS - 1);
    }

    private int presentResidue(int channel) {
        int place = now.presentOf(channel);
        return place == NONE ? 0 : now.ofLetter(place, Engine.RESIDUE);
    }

    /** OVER in the trial as it is set up, if that is most or less; NONE else. */
    private int ticksUntilOver(int channel, int most) {
        for (int gone = 0; gone <= most; gone++) {
            if (trial.engineLettersOf(channel) == 0) {
                return gone;
            }
            boolean noneWaited = trial.queued == 0;
            boolean nobody = trial.tick(false) == NONE;
            // A TICK that wrote nothing back and granted nobody would only be followed by its like.
            if (noneWaited && nobody) {
                return NONE;
            }
        }
        return NONE;
    }

    /** All that 1 and 2 of the document tell but THE TEXT: what is undone, and what images keep. */
    private static final class Engine {
        // The columns of a channel's row.
        static final int ON = 0, RANK = 1, BURST = 2, POST = 3, HEAD = 4, TRANSFERS = 5, GRANTS = 6;
        static final int CHANNEL_COLUMNS = 7;
        // The columns of a letter's row. The first nine stand as an item tells them. What there is
        // for both ways stands side by side, so that a way (0 from, 1 to) is added to the column.
        static final int FROM = 0, N = 2, STEP = 3, ROWS = 5, SKIP = 6, CHAINED = 8;
        static final int OWNER = 9, STATUS = 10, RESIDUE = 11, WAITS = 12;
        static final int TOLD_COLUMNS = 9, LETTER_COLUMNS = 13;
        static final int TO_WHERE = 1;
        static final int HOST = 0, ENGINE = 1;
        static final int POSTED = 0, DONE = 1, CANCELLED = 2;
        static final int PLACES = CHANNELS * SLOTS;
        /** So many letters waiting hold back the channels that would end one more. */
        static final int CROWD = 4;

        final int[] memory;
        final int[] channels;
        /** A slot without a letter has N 0. */
        final int[] letters;
        /** The places of the letters that wait, the one that waits longest first. */
        final int[] queue;
        int queued;
        int lastGranted;
        int ticksGone;

        Engine() {
            memory = new int[ADDRESSES];
            for (int i = 0; i < ADDRESSES; i++) {
                memory[i] = i;
            }
            channels = new int[CHANNELS * CHANNEL_COLUMNS];
            for (int c = 0; c < CHANNELS; c++) {
                channels[c * CHANNEL_COLUMNS + ON] = 1;
                channels[c * CHANNEL_COLUMNS + BURST] = 4;
            }
            letters = new int[PLACES * LETTER_COLUMNS];
            queue = new int[PLACES];
            queued = 0;
            lastGranted = CHANNELS - 1;
            ticksGone = 0;
        }

        void copyFrom(Engine other) {
            System.arraycopy(other.memory, 0, memory, 0, memory.length);
            System.arraycopy(other.channels, 0, channels, 0, channels.length);
            System.arraycopy(other.letters, 0, letters, 0, letters.length);
            System.arraycopy(other.queue, 0, queue, 0, queue.length);
            queued = other.queued;
            lastGranted = other.lastGranted;
            ticksGone = other.ticksGone;
        }

        static int placeOf(int channel, int slot) {
            return channel * SLOTS + slot;
        }

        static int slotBehind(int slot) {
            return slot >= SLOTS - 1 ? 0 : slot + 1;
        }

        int ofChannel(int channel, int column) {
            return channels[channel * CHANNEL_COLUMNS + column];
        }

        void setChannel(int channel, int column, int value) {
            channels[channel * CHANNEL_COLUMNS + column] = value;
        }

        void addOneTo(int channel, int column) {
            channels[channel * CHANNEL_COLUMNS + column]++;
        }

        int ofLetter(int place, int column) {
            return letters[place * LETTER_COLUMNS + column];
        }

        void setLetter(int place, int column, int value) {
            letters[place * LETTER_COLUMNS + column] = value;
        }

        boolean hasLetter(int place) {
            return ofLetter(place, N) > 0;
        }

        /** False of a slot without a letter, too: nobody has made it the engine's. */
        boolean isEngines(int place) {
            return ofLetter(place, OWNER) == ENGINE;
        }

        boolean isToCarry(int place) {
            int row = place * LETTER_COLUMNS;
            return letters[row + OWNER] == ENGINE && letters[row + WAITS] == 0;
        }

        int unitsOf(int place) {
            return ofLetter(place, N) * ofLetter(place, ROWS);
        }

        int addressOf(int place, int k, int way) {
            int n = ofLetter(place, N);
            if (n <= 0) {
                return 0;
            }
            int first = ofLetter(place, FROM + way);
            int skipped = k / n * ofLetter(place, SKIP + way);
            int stepped = k % n * ofLetter(place, STEP + way);
            return Math.floorMod(first + skipped + stepped, ADDRESSES);
        }

        /** The addresses to which a letter's units go, as bits. */
        long writtenBy(int place) {
            long bits = 0;
            int units = unitsOf(place);
            for (int k = 0; k < units; k++) {
                bits |= 1L << addressOf(place, k, TO_WHERE);
            }
            return bits;
        }

        int unitsBoundFor(int address) {
            int bound = 0;
            for (int place = 0; place < PLACES; place++) {
                if (isToCarry(place)) {
                    bound += uncarriedBoundFor(place, address);
                }
            }
            return bound;
        }

        private int uncarriedBoundFor(int place, int address) {
            int bound = 0;
            int units = unitsOf(place);
            for (int k = units - ofLetter(place, RESIDUE); k < units; k++) {
                if (addressOf(place, k, TO_WHERE) == address) {
                    bound++;
                }
            }
            return bound;
        }

        int engineLettersOf(int channel) {
            int found = 0;
            for (int slot = 0; slot < SLOTS; slot++) {
                if (isEngines(placeOf(channel, slot))) {
                    found++;
                }
            }
            return found;
        }

        int engineLetters() {
            int found = 0;
            for (int channel = 0; channel < CHANNELS; channel++) {
                found += engineLettersOf(channel);
            }
            return found;
        }

        /** The place of the PRESENT LETTER; NONE: there is none. */
        int presentOf(int channel) {
            int place = placeOf(channel, ofChannel(channel, HEAD));
            return isToCarry(place) ? place : NONE;
        }

        boolean isReady(int channel) {
            int place = presentOf(channel);
            if (place == NONE || ofChannel(channel, ON) == 0) {
                return false;
            }
            return queued < CROWD || ofLetter(place, RESIDUE) > ofChannel(channel, BURST);
        }

        /** Does what an item tells; false: its slot is not free, and nothing is done. */
        boolean take(Text text, int item) {
            int channelOrAddress = text.number(item, 0);
            switch (text.kind(item)) {
                case Text.LETTER:
                    return post(channelOrAddress, text, item);
                case Text.FILL:
                    memory[channelOrAddress] = text.number(item, 1);
                    return true;
                default:
                    setChannel(channelOrAddress, RANK, text.number(item, 1));
                    setChannel(channelOrAddress, BURST, text.number(item, 2));
                    return true;
            }
        }

        private boolean post(int channel, Text text, int item) {
            int slot = ofChannel(channel, POST);
            int place = placeOf(channel, slot);
            if (isEngines(place)) {
                return false;
            }
            for (int column = 0; column < TOLD_COLUMNS; column++) {
                setLetter(place, column, text.number(item, 1 + column));
            }
            setLetter(place, OWNER, ENGINE);
            setLetter(place, STATUS, POSTED);
            setLetter(place, RESIDUE, unitsOf(place));
            setLetter(place, WAITS, 0);
            setChannel(channel, POST, slotBehind(slot));
            return true;
        }

        /**
         * A TICK: the channel that was GRANTED, or NONE. Who is granted does not hang on the bytes,
         * so what only looks ahead need not carry them.
         */
        int tick(boolean carries) {
            ticksGone++;
            if (queued > 0) {
                writeBack(0);
            }
            int channel = nextToGrant();
            if (channel != NONE) {
                grant(channel, carries);
            }
            return channel;
        }

        private void writeBack(int i) {
            int place = queue[i];
            setLetter(place, OWNER, HOST);
            setLetter(place, STATUS, DONE);
            setLetter(place, WAITS, 0);
            if (ofLetter(place, CHAINED) == 0) {
                addOneTo(place / SLOTS, TRANSFERS);
            }
            queued--;
            for (int j = i; j < queued; j++) {
                queue[j] = queue[j + 1];
            }
        }

        private int nextToGrant() {
            int best = NONE;
            for (int behind = 1; behind <= CHANNELS; behind++) {
                int channel = (lastGranted + behind) % CHANNELS;
                if (isReady(channel) && (best == NONE || ofChannel(channel, RANK) > ofChannel(best, RANK))) {
                    best = channel;
                }
            }
            return best;
        }

        private void grant(int channel, boolean carries) {
            int place = presentOf(channel);
            if (place == NONE) {
                return;
            }
            lastGranted = channel;
            addOneTo(channel, GRANTS);
            int residue = ofLetter(place, RESIDUE);
            int many = Math.min(ofChannel(channel, BURST), residue);
            if (carries) {
                carry(place, unitsOf(place) - residue, many);
            }
            setLetter(place, RESIDUE, residue - many);
            if (residue == many) {
                letWait(channel, place);
            }
        }

        private void carry(int place, int first, int many) {
            for (int k = first; k < first + many; k++) {
                memory[addressOf(place, k, TO_WHERE)] = memory[addressOf(place, k, 0)];
            }
        }

        private void letWait(int channel, int place) {
            setLetter(place, WAITS, 1);
            if (queued < PLACES) {
                queue[queued] = place;
                queued++;
            }
            setChannel(channel, HEAD, slotBehind(ofChannel(channel, HEAD)));
        }

        /** Cancels a channel that has a PRESENT LETTER: the residue of all that were cancelled. */
        int cancel(int channel) {
            writeBackAllOf(channel);
            int slot = ofChannel(channel, HEAD);
            int left = 0;
            boolean goesOn = true;
            // One that was cancelled is the host's, so going round the ring ends by itself, too.
            for (int i = 0; i < SLOTS && goesOn; i++) {
                int place = placeOf(channel, slot);
                left += ofLetter(place, RESIDUE);
                setLetter(place, OWNER, HOST);
                setLetter(place, STATUS, CANCELLED);
                slot = slotBehind(slot);
                goesOn = ofLetter(place, CHAINED) == 1 && isEngines(placeOf(channel, slot));
            }
            setChannel(channel, HEAD, slot);
            return left;
        }

        private void writeBackAllOf(int channel) {
            int i = 0;
            for (int looked = queued; looked > 0; looked--) {
                if (queue[i] / SLOTS == channel) {
                    writeBack(i);
                } else {
                    i++;
                }
            }
        }
    }

    /** THE TEXT, sign by sign, and the items that the last reading of it found. */
    private static final class Text {
        static final int NO_FAULT = -1;
        static final int LETTER = 'l', FILL = 'f', TUNE = 'c';

        private static final int MOST_SIGNS = 120;
        /** The shortest item has five signs (f0 0;). */
        private static final int MOST_ITEMS = MOST_SIGNS / 5;
        private static final int MOST_NUMBERS = 10;
        private static final int MOST_FIGURES = 3;
        private static final int[] LETTER_LEAST = {0, 0, 0, 1, -9, -9, 1, -20, -20, 0};
        private static final int[] LETTER_MOST = {3, 63, 63, 16, 9, 9, 4, 20, 20, 1};
        private static final int[] FILL_LEAST = {0, 0};
        private static final int[] FILL_MOST = {63, 255};
        private static final int[] TUNE_LEAST = {0, 0, 1};
        private static final int[] TUNE_MOST = {3, 3, 8};

        private final int[] signs;
        private final int[] kinds;
        private final int[] numbers;
        private int place;
        int length;
        int itemCount;

        Text() {
            signs = new int[MOST_SIGNS];
            kinds = new int[MOST_ITEMS];
            numbers = new int[MOST_ITEMS * MOST_NUMBERS];
            place = 0;
            length = 0;
            itemCount = 0;
        }

        boolean append(int sign) {
            if (length >= MOST_SIGNS) {
                return false;
            }
            signs[length] = sign;
            length++;
            return true;
        }

        void wipe() {
            length = 0;
        }

        int kind(int item) {
            return kinds[item];
        }

        int number(int item, int i) {
            return numbers[item * MOST_NUMBERS + i];
        }

        /** Finds the items: the FAULT, or NO_FAULT. */
        int read() {
            place = 0;
            itemCount = 0;
            skipBlanks();
            while (place < length && itemCount < MOST_ITEMS) {
                if (!readItem()) {
                    return place;
                }
                itemCount++;
                skipBlanks();
            }
            return place < length ? place : NO_FAULT;
        }

        /** False: place is the FAULT (the text's length, if it ended too early). */
        private boolean readItem() {
            int kind = signs[place];
            switch (kind) {
                case LETTER: return readForm(kind, LETTER_LEAST, LETTER_MOST);
                case FILL: return readForm(kind, FILL_LEAST, FILL_MOST);
                case TUNE: return readForm(kind, TUNE_LEAST, TUNE_MOST);
                default: return false;
            }
        }

        private boolean readForm(int kind, int[] least, int[] most) {
            kinds[itemCount] = kind;
            place++;
            for (int i = 0; i < least.length; i++) {
                skipBlanks();
                if (!readNumber(itemCount * MOST_NUMBERS + i, least[i], most[i])) {
                    return false;
                }
            }
            skipBlanks();
            if (place >= length || signs[place] != ';') {
                return false;
            }
            place++;
            return true;
        }

        /** Reads a number into numbers[into]; false: none that may stand here, and place stays. */
        private boolean readNumber(int into, int least, int most) {
            boolean below = place < length && signs[place] == '-';
            int first = below ? place + 1 : place;
            int figures = 0;
            int value = 0;
            while (first + figures < length && isFigure(signs[first + figures])) {
                // More figures than may be are a fault anyway: their value is not needed.
                if (figures < MOST_FIGURES) {
                    value = value * 10 + signs[first + figures] - '0';
                }
                figures++;
            }
            if (figures == 0 || figures > MOST_FIGURES) {
                return false;
            }
            if (signs[first] == '0' && (figures > 1 || below)) {
                return false;
            }
            value = below ? -value : value;
            if (!within(value, least, most)) {
                return false;
            }
            numbers[into] = value;
            place = first + figures;
            return true;
        }

        private static boolean isFigure(int sign) {
            return within(sign, '0', '9');
        }

        private void skipBlanks() {
            while (place < length && signs[place] == ' ') {
                place++;
            }
        }
    }

    /** How it was ahead of the latest things done: six at most, the older ones are lost. */
    private static final class History {
        private static final int MOST_KNOWN = 6;

        private final Engine[] past;
        private int newest;
        int known;

        History() {
            past = new Engine[MOST_KNOWN];
            for (int i = 0; i < MOST_KNOWN; i++) {
                past[i] = new Engine();
            }
            newest = MOST_KNOWN - 1;
            known = 0;
        }

        void remember(Engine engine) {
            newest = newest >= MOST_KNOWN - 1 ? 0 : newest + 1;
            past[newest].copyFrom(engine);
            known = Math.min(known + 1, MOST_KNOWN);
        }

        boolean restore(Engine engine) {
            if (known == 0) {
                return false;
            }
            engine.copyFrom(past[newest]);
            newest = newest <= 0 ? MOST_KNOWN - 1 : newest - 1;
            known--;
            return true;
        }

        void lose() {
            known = 0;
        }
    }

    /** What was SEEN: in which tick from now on who is granted. */
    private static final class Sightings {
        private static final int MOST_SEEN = 6;

        private final int[] inTick;
        private final int[] who;
        int seen;

        Sightings() {
            inTick = new int[MOST_SEEN];
            who = new int[MOST_SEEN];
            seen = 0;
        }

        boolean note(int k, int channel) {
            if (seen >= MOST_SEEN) {
                return false;
            }
            inTick[seen] = k;
            who[seen] = channel;
            seen++;
            return true;
        }

        void drop() {
            seen = 0;
        }

        /** Lets ticks go by in the engine that is given, as many as are needed. */
        boolean comeTrue(Engine engine) {
            int last = lastTick();
            for (int k = 1; k <= last; k++) {
                if (!allowsInTick(k, engine.tick(false))) {
                    return false;
                }
            }
            return true;
        }

        private int lastTick() {
            int last = 0;
            for (int i = 0; i < seen; i++) {
                last = Math.max(last, inTick[i]);
            }
            return last;
        }

        private boolean allowsInTick(int k, int channel) {
            for (int i = 0; i < seen; i++) {
                if (inTick[i] == k && who[i] != channel) {
                    return false;
                }
            }
            return true;
        }
    }
}
