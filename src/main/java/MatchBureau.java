/** A translation bureau. The document in ../shared/DOC.md says what each public call does. */
public final class MatchBureau {
    public static final int UNKNOWN = -1;
    public static final int BAD_VALUE = -2;
    public static final int FULL = -3;
    public static final int NOT_POSSIBLE = -4;
    public static final int NONE = -5;

    private static final int MAX_PERSONS = 6;
    private static final int MAX_RATE = 50;
    private static final int MAX_TARGET = 999;
    private static final int MAX_TEXT = 60;
    private static final int MAX_LETTERS = 8;
    private static final int MAX_WORDS = 8;
    private static final int MAX_FILES = 8;
    private static final int MAX_SEGMENTS = 12;
    private static final int MAX_ENTRIES = 40;
    private static final int MAX_DISPUTES = 10;
    private static final int MAX_STATES = 4;

    private static final int BANDS = 6;
    private static final int[] FIRST_SHARES = {10, 20, 40, 60, 80, 100};
    private static final int REVIEW_PENCE = 2;

    private static final int OPEN = 0;
    private static final int TAKEN = 1;
    private static final int IN_REVIEW = 2;
    private static final int DELIVERED = 3;
    private static final int WITHDRAWN = 4;

    private static final int NO_WAY = 0;
    private static final int TRANSLATED = 1;
    private static final int SPREAD = 2;
    private static final int FROM_MEMORY = 3;
    private static final int SETTLED = 4;

    private static final int NO_TARGET = 0;
    private static final int NO_FAULT = -1;
    private static final int FAULT_BASE = -100;

    private final Text text;
    private final State now;
    private final State snapshot;
    private final History history;
    private boolean hasSnapshot;

    public MatchBureau() {
        Measure measure = new Measure();
        Segment blank = new Segment(new char[0]);
        text = new Text();
        now = new State(measure, blank);
        snapshot = new State(measure, blank);
        history = new History(measure, blank);
        hasSnapshot = false;
    }

    // ---- persons and shares

    public int addPerson(int rate) {
        if (rate < 1 || rate > MAX_RATE) {
            return BAD_VALUE;
        }
        if (now.personCount >= MAX_PERSONS) {
            return FULL;
        }
        history.push(now);
        return now.hire(rate);
    }

    public int bar(int person, int other, boolean is) {
        if (!now.hasPerson(person) || !now.hasPerson(other)) {
            return UNKNOWN;
        }
        if (person == other) {
            return BAD_VALUE;
        }
        if (now.persons[person].isBarredFrom(other) == is) {
            return NONE;
        }
        history.push(now);
        now.persons[person].setBarredFrom(other, is);
        now.persons[other].setBarredFrom(person, is);
        return Integer.bitCount(now.persons[person].barred);
    }

    public int setShare(int band, int percent) {
        if (!isBand(band) || percent < 0 || percent > 100) {
            return BAD_VALUE;
        }
        int previous = now.shares[band];
        if (previous == percent) {
            return NONE;
        }
        history.push(now);
        now.shares[band] = percent;
        return previous;
    }

    // ---- texts

    public int type(char character) {
        if (text.length >= MAX_TEXT) {
            return FULL;
        }
        text.append(character);
        return text.length;
    }

    public int clearText() {
        int length = text.length;
        text.length = 0;
        return length;
    }

    // ---- files and memory

    public int newFile() {
        if (now.fileCount >= MAX_FILES) {
            return FULL;
        }
        history.push(now);
        return now.addFile();
    }

    public int readSegments(int file) {
        if (!now.hasFile(file)) {
            return UNKNOWN;
        }
        int fault = text.fault();
        if (fault != NO_FAULT) {
            return FAULT_BASE - fault;
        }
        WorkFile work = now.files[file];
        if (work.stage != OPEN) {
            return NOT_POSSIBLE;
        }
        if (work.size + text.segmentCount() > MAX_SEGMENTS) {
            return FULL;
        }
        history.push(now);
        text.appendSegmentsTo(work);
        return work.size;
    }

    public int remember(int target) {
        int fault = text.fault();
        if (fault != NO_FAULT) {
            return FAULT_BASE - fault;
        }
        if (!isTarget(target) || text.segmentCount() > 1) {
            return BAD_VALUE;
        }
        Segment segment = text.wholeSegment();
        if (now.memory.alikeEntry(segment) != NONE) {
            return NOT_POSSIBLE;
        }
        if (now.memory.entryCount >= MAX_ENTRIES) {
            return FULL;
        }
        history.push(now);
        return now.memory.addEntry(segment, target);
    }

    public int swapFiles(int file, int other) {
        if (!now.hasFile(file) || !now.hasFile(other)) {
            return UNKNOWN;
        }
        if (file == other) {
            return NONE;
        }
        history.push(now);
        now.exchangePlaces(file, other);
        return now.placeOf(file);
    }

    public int withdraw(int file) {
        if (!now.hasFile(file)) {
            return UNKNOWN;
        }
        WorkFile work = now.files[file];
        if (!work.isInHand()) {
            return NOT_POSSIBLE;
        }
        history.push(now);
        work.stage = WITHDRAWN;
        work.price = NONE;
        return work.size - work.countWithoutTarget();
    }

    // ---- work

    public int take(int file, int person) {
        if (!now.hasFile(file) || !now.hasPerson(person)) {
            return UNKNOWN;
        }
        WorkFile work = now.files[file];
        if (work.stage != OPEN || work.size == 0) {
            return NOT_POSSIBLE;
        }
        history.push(now);
        work.price = now.priceFor(file, now.persons[person].rate);
        work.stage = TAKEN;
        work.translator = person;
        now.memory.fillFromEntries(work);
        return work.price;
    }

    public int translate(int file, int segment, int target) {
        if (!now.hasSegment(file, segment)) {
            return UNKNOWN;
        }
        if (!isTarget(target)) {
            return BAD_VALUE;
        }
        WorkFile work = now.files[file];
        Segment source = work.segments[segment];
        if (work.stage != TAKEN || now.memory.isSettledOtherwise(source, target)) {
            return NOT_POSSIBLE;
        }
        // The document lists NONE ahead of FULL, but lets no NONE be returned where an error applies.
        if (!now.memory.hasRoomFor(source, target)) {
            return FULL;
        }
        if (work.targets[segment] == target) {
            return NONE;
        }
        history.push(now);
        work.putTarget(segment, target, TRANSLATED);
        now.memory.learn(source, target);
        return 1 + now.spreadTarget(source, target);
    }

    public int review(int file, int person) {
        if (!now.hasFile(file) || !now.hasPerson(person)) {
            return UNKNOWN;
        }
        if (!now.mayReview(file, person) || !now.isReadyForReview(file)) {
            return NOT_POSSIBLE;
        }
        history.push(now);
        now.giveToReviewer(file, person);
        return now.files[file].countInWay(TRANSLATED);
    }

    public int reject(int file, int segment) {
        if (!now.hasSegment(file, segment)) {
            return UNKNOWN;
        }
        WorkFile work = now.files[file];
        if (work.stage != IN_REVIEW) {
            return NOT_POSSIBLE;
        }
        history.push(now);
        work.putTarget(segment, NO_TARGET, NO_WAY);
        work.stage = TAKEN;
        work.reviewer = NONE;
        work.rejections++;
        return work.rejections;
    }

    public int deliver(int file) {
        if (!now.hasFile(file)) {
            return UNKNOWN;
        }
        WorkFile work = now.files[file];
        if (work.stage != IN_REVIEW) {
            return NOT_POSSIBLE;
        }
        history.push(now);
        work.stage = DELIVERED;
        return work.cost();
    }

    public int settle(int dispute, int which) {
        if (!now.memory.hasDispute(dispute)) {
            return UNKNOWN;
        }
        if (which != 0 && which != 1) {
            return BAD_VALUE;
        }
        if (now.memory.disputes[dispute].isSettled()) {
            return NOT_POSSIBLE;
        }
        history.push(now);
        return now.decide(dispute, which);
    }

    // ---- history

    public int undo() {
        if (history.size == 0) {
            return NONE;
        }
        history.pop(now);
        return history.size;
    }

    public int keep() {
        snapshot.copyFrom(now);
        hasSnapshot = true;
        return now.fileCount;
    }

    public int restore() {
        if (!hasSnapshot) {
            return NONE;
        }
        history.push(now);
        now.copyFrom(snapshot);
        return now.fileCount;
    }

    // ---- what is told

    public int person(int person, int what) {
        if (!now.hasPerson(person)) {
            return UNKNOWN;
        }
        switch (what) {
            case 0:
                return now.persons[person].rate;
            case 1:
                return now.persons[person].barred;
            case 2:
                return now.countTranslating(person);
            case 3:
                return now.countReviewing(person);
            case 4:
                return now.wordsTranslated(person);
            case 5:
                return now.wordsReviewed(person);
            case 6:
                return now.paidTo(person);
            case 7:
                return now.persons[person].lastReviewer;
            default:
                return BAD_VALUE;
        }
    }

    public int file(int file, int what) {
        if (!now.hasFile(file)) {
            return UNKNOWN;
        }
        WorkFile work = now.files[file];
        switch (what) {
            case 0:
                return work.stage;
            case 1:
                return work.size;
            case 2:
                return work.countWords();
            case 3:
                return now.placeOf(file);
            case 4:
                return work.translator;
            case 5:
                return work.reviewer;
            case 6:
                return work.price;
            case 7:
                return work.cost();
            case 8:
                return work.countWithoutTarget();
            case 9:
                return work.rejections;
            default:
                return BAD_VALUE;
        }
    }

    public int segment(int file, int segment, int what) {
        if (!now.hasSegment(file, segment)) {
            return UNKNOWN;
        }
        WorkFile work = now.files[file];
        Segment asked = work.segments[segment];
        switch (what) {
            case 0:
                return asked.wordCount;
            case 1:
                return work.targets[segment] == NO_TARGET ? NONE : work.targets[segment];
            case 2:
                return work.ways[segment];
            case 3:
                return now.memory.bestMatch(asked);
            case 4:
                return now.memory.bestEntry(asked);
            case 5:
                return work.isInHand() ? now.bandOf(file, segment) : NONE;
            case 6:
                return now.repeatSource(file, segment);
            default:
                return BAD_VALUE;
        }
    }

    public int charAt(int file, int segment, int index) {
        if (!now.hasSegment(file, segment)) {
            return UNKNOWN;
        }
        if (index < 0) {
            return BAD_VALUE;
        }
        char[] characters = now.files[file].segments[segment].characters;
        return index < characters.length ? characters[index] : NONE;
    }

    public int distance(int file, int segment, int entry) {
        if (!now.hasSegment(file, segment) || !now.memory.hasEntry(entry)) {
            return UNKNOWN;
        }
        return now.memory.distanceTo(now.files[file].segments[segment], entry);
    }

    public int wordsIn(int file, int band) {
        if (!now.hasFile(file)) {
            return UNKNOWN;
        }
        if (!isBand(band)) {
            return BAD_VALUE;
        }
        if (!now.files[file].isInHand()) {
            return NONE;
        }
        now.sumBandWords(file);
        return now.bandWords[band];
    }

    public int allWords(int band) {
        if (!isBand(band)) {
            return BAD_VALUE;
        }
        int words = 0;
        for (int file = 0; file < now.fileCount; file++) {
            if (now.files[file].isInHand()) {
                now.sumBandWords(file);
                words += now.bandWords[band];
            }
        }
        return words;
    }

    public int price(int file, int person) {
        if (!now.hasFile(file) || !now.hasPerson(person)) {
            return UNKNOWN;
        }
        if (!now.files[file].isInHand()) {
            return NONE;
        }
        return now.priceFor(file, now.persons[person].rate);
    }

    public int firstReviewer(int file) {
        if (!now.hasFile(file)) {
            return UNKNOWN;
        }
        for (int person = 0; person < now.personCount; person++) {
            if (now.mayReview(file, person)) {
                return person;
            }
        }
        return NONE;
    }

    public int entry(int entry, int what) {
        if (!now.memory.hasEntry(entry)) {
            return UNKNOWN;
        }
        Entry asked = now.memory.entries[entry];
        switch (what) {
            case 0:
                return asked.segment.wordCount;
            case 1:
                return asked.target;
            case 2:
                return asked.settled ? 1 : 0;
            case 3:
                return now.memory.openDispute(entry);
            case 4:
                return now.countAlikeInHand(asked.segment);
            default:
                return BAD_VALUE;
        }
    }

    public int dispute(int dispute, int what) {
        if (!now.memory.hasDispute(dispute)) {
            return UNKNOWN;
        }
        Dispute asked = now.memory.disputes[dispute];
        switch (what) {
            case 0:
                return asked.entry;
            case 1:
                return asked.first;
            case 2:
                return asked.second;
            case 3:
                return asked.isSettled() ? 1 : 0;
            case 4:
                return asked.isSettled() ? asked.chosen : NONE;
            default:
                return BAD_VALUE;
        }
    }

    public int fileAt(int place) {
        if (place < 0) {
            return BAD_VALUE;
        }
        return place < now.fileCount ? now.order[place] : NONE;
    }

    public int count(int what) {
        switch (what) {
            case 0:
                return now.fileCount;
            case 1:
                return now.countInHand();
            case 2:
                return now.personCount;
            case 3:
                return now.memory.entryCount;
            case 4:
                return now.memory.disputeCount;
            case 5:
                return now.memory.countOpenDisputes();
            case 6:
                return now.wordsInHand();
            case 7:
                return now.wordsDelivered();
            case 8:
                return now.paidInAll();
            case 9:
                return now.countInHandWithoutTarget();
            case 10:
            case 11:
            case 12:
            case 13:
            case 14:
                return now.countInWay(what - 10);
            case 15:
                return history.size;
            case 16:
                return text.length;
            default:
                return BAD_VALUE;
        }
    }

    private static boolean isBand(int band) {
        return band >= 0 && band < BANDS;
    }

    private static boolean isTarget(int target) {
        return target >= 1 && target <= MAX_TARGET;
    }

    /** The words of a segment; never changed, so that states can share it. */
    private static final class Segment {
        final char[] characters;
        /** Each word as a number in base 32, so that two words are the same if their numbers are. */
        final long[] words;
        int wordCount;

        Segment(char[] characters) {
            this.characters = characters;
            words = new long[MAX_WORDS];
            wordCount = 0;
            long word = 0;
            for (int i = 0; i < characters.length; i++) {
                if (characters[i] == ' ') {
                    addWord(word);
                    word = 0;
                } else {
                    word = word * 32 + (characters[i] - 'a' + 1);
                }
            }
            addWord(word);
        }

        private void addWord(long word) {
            if (word != 0 && wordCount < MAX_WORDS) {
                words[wordCount] = word;
                wordCount++;
            }
        }

        boolean isAlike(Segment other) {
            if (wordCount != other.wordCount) {
                return false;
            }
            for (int i = 0; i < wordCount; i++) {
                if (words[i] != other.words[i]) {
                    return false;
                }
            }
            return true;
        }
    }

    /** Distances of segments; the row is kept, so that a measurement makes no objects. */
    private static final class Measure {
        private final int[] row;

        Measure() {
            row = new int[MAX_WORDS + 1];
        }

        int between(Segment one, Segment other) {
            for (int column = 0; column <= other.wordCount; column++) {
                row[column] = column;
            }
            for (int line = 1; line <= one.wordCount; line++) {
                int corner = row[0];
                row[0] = line;
                for (int column = 1; column <= other.wordCount; column++) {
                    int least = corner;
                    corner = row[column];
                    if (one.words[line - 1] != other.words[column - 1]) {
                        // No Math.min: LANGUAGE.md lets calls go eight deep, and price() comes far.
                        least = least < corner ? least : corner;
                        least = least < row[column - 1] ? least : row[column - 1];
                        least++;
                    }
                    row[column] = least;
                }
            }
            return row[other.wordCount];
        }

        int match(Segment one, Segment other) {
            int longer = Math.max(one.wordCount, other.wordCount);
            if (longer == 0) {
                return 0;
            }
            return 100 * (longer - between(one, other)) / longer;
        }
    }

    /** The text that is typed. */
    private static final class Text {
        private final char[] characters;
        int length;

        Text() {
            characters = new char[MAX_TEXT];
            length = 0;
        }

        void append(char character) {
            if (length < MAX_TEXT) {
                characters[length] = character;
                length++;
            }
        }

        int fault() {
            int letters = 0;
            int words = 1;
            for (int at = 0; at < length; at++) {
                char character = characters[at];
                if (character >= 'a' && character <= 'z' && letters < MAX_LETTERS) {
                    letters++;
                } else if (character == ' ' && letters > 0 && words < MAX_WORDS) {
                    letters = 0;
                    words++;
                } else if (character == '.' && letters > 0) {
                    letters = 0;
                    words = 1;
                } else {
                    return at;
                }
            }
            return letters == 0 ? length : NO_FAULT;
        }

        int segmentCount() {
            int count = 1;
            for (int at = 0; at < length; at++) {
                if (characters[at] == '.') {
                    count++;
                }
            }
            return count;
        }

        void appendSegmentsTo(WorkFile work) {
            int start = 0;
            for (int at = 0; at < length; at++) {
                if (characters[at] == '.') {
                    work.append(segmentBetween(start, at));
                    start = at + 1;
                }
            }
            work.append(segmentBetween(start, length));
        }

        Segment wholeSegment() {
            return segmentBetween(0, length);
        }

        private Segment segmentBetween(int start, int end) {
            char[] part = new char[Math.max(0, end - start)];
            for (int i = 0; i < part.length; i++) {
                part[i] = characters[start + i];
            }
            return new Segment(part);
        }
    }

    private static final class Person {
        int rate;
        int barred;
        int lastReviewer;

        Person() {
            reset(0);
        }

        void reset(int newRate) {
            rate = newRate;
            barred = 0;
            lastReviewer = NONE;
        }

        boolean isBarredFrom(int other) {
            return (barred >> other & 1) == 1;
        }

        void setBarredFrom(int other, boolean is) {
            if (is) {
                barred |= 1 << other;
            } else {
                barred &= ~(1 << other);
            }
        }

        void copyFrom(Person other) {
            rate = other.rate;
            barred = other.barred;
            lastReviewer = other.lastReviewer;
        }
    }

    private static final class WorkFile {
        int stage;
        int translator;
        int reviewer;
        int price;
        int rejections;
        int size;
        final Segment[] segments;
        final int[] targets;
        final int[] ways;

        WorkFile(Segment blank) {
            segments = new Segment[MAX_SEGMENTS];
            for (int i = 0; i < MAX_SEGMENTS; i++) {
                segments[i] = blank;
            }
            targets = new int[MAX_SEGMENTS];
            ways = new int[MAX_SEGMENTS];
            reset();
        }

        void reset() {
            stage = OPEN;
            translator = NONE;
            reviewer = NONE;
            price = NONE;
            rejections = 0;
            size = 0;
        }

        void append(Segment segment) {
            if (size < MAX_SEGMENTS) {
                segments[size] = segment;
                putTarget(size, NO_TARGET, NO_WAY);
                size++;
            }
        }

        void putTarget(int segment, int target, int way) {
            targets[segment] = target;
            ways[segment] = way;
        }

        boolean isInHand() {
            return stage == OPEN || stage == TAKEN || stage == IN_REVIEW;
        }

        boolean isTranslatedBy(int person) {
            return translator == person;
        }

        boolean isReviewedBy(int person) {
            return reviewer == person;
        }

        int countWords() {
            int words = 0;
            for (int i = 0; i < size; i++) {
                words += segments[i].wordCount;
            }
            return words;
        }

        int countWithoutTarget() {
            return countInWay(NO_WAY);
        }

        int countInWay(int way) {
            int segmentsInWay = 0;
            for (int i = 0; i < size; i++) {
                if (ways[i] == way) {
                    segmentsInWay++;
                }
            }
            return segmentsInWay;
        }

        int countAlike(Segment sought) {
            int alike = 0;
            for (int i = 0; i < size; i++) {
                if (segments[i].isAlike(sought)) {
                    alike++;
                }
            }
            return alike;
        }

        /** The last alike segment with a lower number than the end, or NONE. */
        int lastAlike(Segment sought, int end) {
            for (int i = Math.min(end, size) - 1; i >= 0; i--) {
                if (segments[i].isAlike(sought)) {
                    return i;
                }
            }
            return NONE;
        }

        int reviewPay() {
            return REVIEW_PENCE * countWords();
        }

        int cost() {
            if (stage == DELIVERED) {
                return price + reviewPay();
            }
            return stage == TAKEN || stage == IN_REVIEW ? price : 0;
        }

        int fillAlike(Segment sought, int target) {
            int filled = 0;
            for (int i = 0; i < size; i++) {
                if (targets[i] == NO_TARGET && segments[i].isAlike(sought)) {
                    putTarget(i, target, SPREAD);
                    filled++;
                }
            }
            return filled;
        }

        int replaceAlike(Segment sought, int target) {
            int replaced = 0;
            for (int i = 0; i < size; i++) {
                if (targets[i] != NO_TARGET && targets[i] != target && segments[i].isAlike(sought)) {
                    putTarget(i, target, SETTLED);
                    replaced++;
                }
            }
            return replaced;
        }

        void copyFrom(WorkFile other) {
            stage = other.stage;
            translator = other.translator;
            reviewer = other.reviewer;
            price = other.price;
            rejections = other.rejections;
            size = other.size;
            for (int i = 0; i < size; i++) {
                segments[i] = other.segments[i];
                putTarget(i, other.targets[i], other.ways[i]);
            }
        }
    }

    private static final class Entry {
        Segment segment;
        int target;
        boolean settled;

        Entry(Segment segment) {
            reset(segment, NO_TARGET);
        }

        void reset(Segment newSegment, int newTarget) {
            segment = newSegment;
            target = newTarget;
            settled = false;
        }

        void copyFrom(Entry other) {
            segment = other.segment;
            target = other.target;
            settled = other.settled;
        }
    }

    private static final class Dispute {
        int entry;
        int first;
        int second;
        int chosen;

        Dispute() {
            reset(0, NO_TARGET, NO_TARGET);
        }

        void reset(int newEntry, int newFirst, int newSecond) {
            entry = newEntry;
            first = newFirst;
            second = newSecond;
            chosen = NO_TARGET;
        }

        boolean isSettled() {
            return chosen != NO_TARGET;
        }

        void copyFrom(Dispute other) {
            entry = other.entry;
            first = other.first;
            second = other.second;
            chosen = other.chosen;
        }
    }

    /** The entries and the disputes for them. */
    private static final class Memory {
        private final Measure measure;
        final Entry[] entries;
        int entryCount;
        final Dispute[] disputes;
        int disputeCount;

        Memory(Measure measure, Segment blank) {
            this.measure = measure;
            entries = new Entry[MAX_ENTRIES];
            for (int i = 0; i < MAX_ENTRIES; i++) {
                entries[i] = new Entry(blank);
            }
            entryCount = 0;
            disputes = new Dispute[MAX_DISPUTES];
            for (int i = 0; i < MAX_DISPUTES; i++) {
                disputes[i] = new Dispute();
            }
            disputeCount = 0;
        }

        boolean hasEntry(int entry) {
            return entry >= 0 && entry < entryCount;
        }

        boolean hasDispute(int dispute) {
            return dispute >= 0 && dispute < disputeCount;
        }

        int alikeEntry(Segment segment) {
            for (int i = 0; i < entryCount; i++) {
                if (entries[i].segment.isAlike(segment)) {
                    return i;
                }
            }
            return NONE;
        }

        int addEntry(Segment segment, int target) {
            if (entryCount >= MAX_ENTRIES) {
                return FULL;
            }
            entries[entryCount].reset(segment, target);
            entryCount++;
            return entryCount - 1;
        }

        int distanceTo(Segment segment, int entry) {
            return measure.between(segment, entries[entry].segment);
        }

        int bestMatch(Segment segment) {
            int greatest = 0;
            for (int i = 0; i < entryCount; i++) {
                greatest = Math.max(greatest, measure.match(segment, entries[i].segment));
            }
            return greatest;
        }

        int bestEntry(Segment segment) {
            int greatest = bestMatch(segment);
            for (int i = 0; greatest > 0 && i < entryCount; i++) {
                if (measure.match(segment, entries[i].segment) == greatest) {
                    return i;
                }
            }
            return NONE;
        }

        void fillFromEntries(WorkFile work) {
            for (int i = 0; i < work.size; i++) {
                // A match of 100 is a distance of 0, so the entry is the alike one.
                int entry = alikeEntry(work.segments[i]);
                if (work.targets[i] == NO_TARGET && hasEntry(entry)) {
                    work.putTarget(i, entries[entry].target, FROM_MEMORY);
                }
            }
        }

        boolean isSettledOtherwise(Segment segment, int target) {
            int entry = alikeEntry(segment);
            return hasEntry(entry) && entries[entry].settled && entries[entry].target != target;
        }

        /** Whether learn has room for what it would add. */
        boolean hasRoomFor(Segment segment, int target) {
            int entry = alikeEntry(segment);
            if (!hasEntry(entry)) {
                return entryCount < MAX_ENTRIES;
            }
            return !needsDispute(entry, target) || disputeCount < MAX_DISPUTES;
        }

        void learn(Segment segment, int target) {
            int entry = alikeEntry(segment);
            if (!hasEntry(entry)) {
                addEntry(segment, target);
            } else if (needsDispute(entry, target) && disputeCount < MAX_DISPUTES) {
                disputes[disputeCount].reset(entry, entries[entry].target, target);
                disputeCount++;
            }
        }

        private boolean needsDispute(int entry, int target) {
            return entries[entry].target != target && openDispute(entry) == NONE;
        }

        int openDispute(int entry) {
            for (int i = 0; i < disputeCount; i++) {
                if (disputes[i].entry == entry && !disputes[i].isSettled()) {
                    return i;
                }
            }
            return NONE;
        }

        boolean isDisputed(Segment segment) {
            int entry = alikeEntry(segment);
            return hasEntry(entry) && openDispute(entry) != NONE;
        }

        int countOpenDisputes() {
            int open = 0;
            for (int i = 0; i < disputeCount; i++) {
                if (!disputes[i].isSettled()) {
                    open++;
                }
            }
            return open;
        }

        void copyFrom(Memory other) {
            entryCount = other.entryCount;
            for (int i = 0; i < entryCount; i++) {
                entries[i].copyFrom(other.entries[i]);
            }
            disputeCount = other.disputeCount;
            for (int i = 0; i < disputeCount; i++) {
                disputes[i].copyFrom(other.disputes[i]);
            }
        }
    }

    /** Everything but the text, the history and the snapshot. */
    private static final class State {
        final int[] shares;
        final Person[] persons;
        int personCount;
        final WorkFile[] files;
        int fileCount;
        /** The file at each place. */
        final int[] order;
        final Memory memory;
        /** What sumBandWords has found; no part of what is copied. */
        final int[] bandWords;

        State(Measure measure, Segment blank) {
            shares = FIRST_SHARES.clone();
            persons = new Person[MAX_PERSONS];
            for (int i = 0; i < MAX_PERSONS; i++) {
                persons[i] = new Person();
            }
            personCount = 0;
            files = new WorkFile[MAX_FILES];
            for (int i = 0; i < MAX_FILES; i++) {
                files[i] = new WorkFile(blank);
            }
            fileCount = 0;
            order = new int[MAX_FILES];
            memory = new Memory(measure, blank);
            bandWords = new int[BANDS];
        }

        boolean hasPerson(int person) {
            return person >= 0 && person < personCount;
        }

        boolean hasFile(int file) {
            return file >= 0 && file < fileCount;
        }

        boolean hasSegment(int file, int segment) {
            return hasFile(file) && segment >= 0 && segment < files[file].size;
        }

        int hire(int rate) {
            if (personCount >= MAX_PERSONS) {
                return FULL;
            }
            persons[personCount].reset(rate);
            personCount++;
            return personCount - 1;
        }

        int addFile() {
            if (fileCount >= MAX_FILES) {
                return FULL;
            }
            files[fileCount].reset();
            order[fileCount] = fileCount;
            fileCount++;
            return fileCount - 1;
        }

        int placeOf(int file) {
            for (int place = 0; place < fileCount; place++) {
                if (order[place] == file) {
                    return place;
                }
            }
            return NONE;
        }

        void exchangePlaces(int file, int other) {
            for (int place = 0; place < fileCount; place++) {
                if (order[place] == file) {
                    order[place] = other;
                } else if (order[place] == other) {
                    order[place] = file;
                }
            }
        }

        /** The nearest segment that makes this one a repeat, as 100 * file + segment, or NONE. */
        int repeatSource(int file, int segment) {
            if (!files[file].isInHand()) {
                return NONE;
            }
            Segment sought = files[file].segments[segment];
            int found = files[file].lastAlike(sought, segment);
            if (found != NONE) {
                return 100 * file + found;
            }
            for (int place = placeOf(file) - 1; place >= 0; place--) {
                int other = order[place];
                boolean counts = hasFile(other) && files[other].isInHand();
                found = counts ? files[other].lastAlike(sought, MAX_SEGMENTS) : NONE;
                if (found != NONE) {
                    return 100 * other + found;
                }
            }
            return NONE;
        }

        /** The band of a segment of a file in hand. */
        int bandOf(int file, int segment) {
            if (repeatSource(file, segment) != NONE) {
                return 0;
            }
            int match = memory.bestMatch(files[file].segments[segment]);
            if (match == 100) {
                return 1;
            }
            if (match >= 85) {
                return 2;
            }
            if (match >= 75) {
                return 3;
            }
            return match >= 50 ? 4 : 5;
        }

        /** Sums up the words of a file in hand by bands into bandWords. */
        void sumBandWords(int file) {
            for (int band = 0; band < BANDS; band++) {
                bandWords[band] = 0;
            }
            for (int segment = 0; segment < files[file].size; segment++) {
                bandWords[bandOf(file, segment)] += files[file].segments[segment].wordCount;
            }
        }

        int priceFor(int file, int rate) {
            sumBandWords(file);
            int sum = 0;
            for (int band = 0; band < BANDS; band++) {
                sum += bandWords[band] * rate * shares[band] / 100;
            }
            return sum;
        }

        int spreadTarget(Segment source, int target) {
            int filled = 0;
            for (int file = 0; file < fileCount; file++) {
                if (files[file].stage == TAKEN) {
                    filled += files[file].fillAlike(source, target);
                }
            }
            return filled;
        }

        int decide(int dispute, int which) {
            Dispute decided = memory.disputes[dispute];
            if (!memory.hasEntry(decided.entry)) {
                return 0;
            }
            decided.chosen = which == 0 ? decided.first : decided.second;
            Entry entry = memory.entries[decided.entry];
            entry.target = decided.chosen;
            entry.settled = true;
            int replaced = 0;
            for (int file = 0; file < fileCount; file++) {
                if (files[file].isInHand()) {
                    replaced += files[file].replaceAlike(entry.segment, entry.target);
                }
            }
            return replaced;
        }

        boolean mayReview(int file, int person) {
            int translator = files[file].translator;
            return files[file].stage == TAKEN && hasPerson(translator) && person != translator
                    && !persons[translator].isBarredFrom(person)
                    && persons[translator].lastReviewer != person;
        }

        boolean isReadyForReview(int file) {
            WorkFile work = files[file];
            for (int i = 0; i < work.size; i++) {
                if (work.targets[i] == NO_TARGET || memory.isDisputed(work.segments[i])) {
                    return false;
                }
            }
            return true;
        }

        void giveToReviewer(int file, int person) {
            WorkFile work = files[file];
            work.stage = IN_REVIEW;
            work.reviewer = person;
            if (hasPerson(work.translator)) {
                persons[work.translator].lastReviewer = person;
            }
        }

        int countTranslating(int person) {
            int found = 0;
            for (int i = 0; i < fileCount; i++) {
                boolean atWork = files[i].stage == TAKEN || files[i].stage == IN_REVIEW;
                if (atWork && files[i].isTranslatedBy(person)) {
                    found++;
                }
            }
            return found;
        }

        int countReviewing(int person) {
            int found = 0;
            for (int i = 0; i < fileCount; i++) {
                if (files[i].stage == IN_REVIEW && files[i].isReviewedBy(person)) {
                    found++;
                }
            }
            return found;
        }

        int wordsTranslated(int person) {
            int words = 0;
            for (int i = 0; i < fileCount; i++) {
                if (files[i].stage == DELIVERED && files[i].isTranslatedBy(person)) {
                    words += files[i].countWords();
                }
            }
            return words;
        }

        int wordsReviewed(int person) {
            int words = 0;
            for (int i = 0; i < fileCount; i++) {
                if (files[i].stage == DELIVERED && files[i].isReviewedBy(person)) {
                    words += files[i].countWords();
                }
            }
            return words;
        }

        int paidTo(int person) {
            int paid = REVIEW_PENCE * wordsReviewed(person);
            for (int i = 0; i < fileCount; i++) {
                if (files[i].stage == DELIVERED && files[i].isTranslatedBy(person)) {
                    paid += files[i].price;
                }
            }
            return paid;
        }

        int paidInAll() {
            int paid = 0;
            for (int i = 0; i < fileCount; i++) {
                if (files[i].stage == DELIVERED) {
                    paid += files[i].cost();
                }
            }
            return paid;
        }

        int countInHand() {
            int found = 0;
            for (int i = 0; i < fileCount; i++) {
                if (files[i].isInHand()) {
                    found++;
                }
            }
            return found;
        }

        int wordsInHand() {
            int words = 0;
            for (int i = 0; i < fileCount; i++) {
                if (files[i].isInHand()) {
                    words += files[i].countWords();
                }
            }
            return words;
        }

        int wordsDelivered() {
            int words = 0;
            for (int i = 0; i < fileCount; i++) {
                if (files[i].stage == DELIVERED) {
                    words += files[i].countWords();
                }
            }
            return words;
        }

        int countInHandWithoutTarget() {
            int found = 0;
            for (int i = 0; i < fileCount; i++) {
                if (files[i].isInHand()) {
                    found += files[i].countWithoutTarget();
                }
            }
            return found;
        }

        int countInWay(int way) {
            int found = 0;
            for (int i = 0; i < fileCount; i++) {
                found += files[i].countInWay(way);
            }
            return found;
        }

        int countAlikeInHand(Segment segment) {
            int found = 0;
            for (int i = 0; i < fileCount; i++) {
                if (files[i].isInHand()) {
                    found += files[i].countAlike(segment);
                }
            }
            return found;
        }

        void copyFrom(State other) {
            for (int i = 0; i < BANDS; i++) {
                shares[i] = other.shares[i];
            }
            personCount = other.personCount;
            for (int i = 0; i < personCount; i++) {
                persons[i].copyFrom(other.persons[i]);
            }
            fileCount = other.fileCount;
            for (int i = 0; i < fileCount; i++) {
                files[i].copyFrom(other.files[i]);
                order[i] = other.order[i];
            }
            memory.copyFrom(other.memory);
        }
    }

    /** The states that undo can restore, the latest one last; their objects are used again. */
    private static final class History {
        private final State[] states;
        int size;

        History(Measure measure, Segment blank) {
            states = new State[MAX_STATES];
            for (int i = 0; i < MAX_STATES; i++) {
                states[i] = new State(measure, blank);
            }
            size = 0;
        }

        void push(State state) {
            if (size >= MAX_STATES) {
                dropOldest();
            }
            states[size].copyFrom(state);
            size++;
        }

        private void dropOldest() {
            State oldest = states[0];
            for (int i = 1; i < MAX_STATES; i++) {
                states[i - 1] = states[i];
            }
            states[MAX_STATES - 1] = oldest;
            size = MAX_STATES - 1;
        }

        void pop(State into) {
            if (size > 0) {
                size--;
                into.copyFrom(states[size]);
            }
        }
    }
}
