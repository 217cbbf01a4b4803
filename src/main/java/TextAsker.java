/** A maker of questions about small texts; README.md says how to use it. */
public final class TextAsker {
    public static final int NONE = -1;

    private static final int PERSONS = 8;
    private static final int MEN = 0x55;
    private static final int WOMEN = 0xAA;
    private static final int THINGS = 10;
    private static final int FIRST_THING = 10;
    private static final int PLACES = 8;
    private static final int FIRST_PLACE = 20;
    private static final int GOES = 30;
    private static final int TAKES = 31;
    private static final int DROPS = 32;
    private static final int GIVES = 33;
    private static final int HE = 40;
    private static final int SHE = 41;
    private static final int END = 50;

    private static final int MOST_SENTENCES = 14;
    private static final int LONGEST_SENTENCE = 5;
    private static final int MOST_READINGS = 64;

    private static final int SUBJECT = 0;
    private static final int RECEIVER = 1;

    private static final int LIES = 9;
    private static final int NOT_TOLD = -2;
    private static final int IN_DOUBT = -3;

    private static final int KINDS = 4;
    private static final int WHERE_PERSON = 0;
    private static final int WHERE_THING = 1;
    private static final int WHO_HAS = 2;
    private static final int HOW_MANY = 3;
    private static final int QUESTIONS = 2 * PERSONS + 2 * THINGS;

    private final Text text;
    private final Ways ways;
    private final World world;
    private final Findings findings;
    private final Cover cover;

    public TextAsker() {
        text = new Text();
        ways = new Ways();
        world = new World();
        findings = new Findings();
        cover = new Cover();
        findAnswers(0);
    }

    public boolean sign(int sign) {
        if (!text.fits(sign)) {
            return false;
        }
        text.add(sign);
        return sign != END || finishSentence();
    }

    public boolean back() {
        return text.forgetLatest();
    }

    public int told(int sentence, int i) {
        return text.signAt(sentence, i);
    }

    public int readings(int k) {
        return hasPrefix(k) ? ways.size(k) : NONE;
    }

    public int means(int sentence, int which, int r) {
        if (sentence < 0 || sentence >= text.sentences || !hasReading(r)) {
            return NONE;
        }
        if (which != SUBJECT && which != RECEIVER) {
            return NONE;
        }
        return text.person(sentence, which, ways.choices(text.sentences, r));
    }

    public int answer(int kind, int about, int k) {
        int question = questionNumber(kind, about);
        return question == NONE || !hasPrefix(k) ? NONE : findings.answers[k][question];
    }

    public int level(int kind, int about, int k) {
        int question = questionNumber(kind, about);
        return question == NONE || !hasPrefix(k) ? NONE : findings.levels[k][question];
    }

    public int grounds(int kind, int about, int r) {
        if (questionNumber(kind, about) == NONE || !hasReading(r)) {
            return NONE;
        }
        world.goThrough(text, text.sentences, ways.choices(text.sentences, r));
        return world.basis(kind, about);
    }

    public int judge(int kind, int about, int said) {
        int question = questionNumber(kind, about);
        if (question == NONE || rightAnswer(question) < 0) {
            return NONE;
        }
        if (said == rightAnswer(question)) {
            return 0;
        }
        if (!isOfKind(kind, said)) {
            return 1;
        }
        return wasAnswer(question, said) ? 2 : 3;
    }

    public int asks(int kind, int about) {
        int question = questionNumber(kind, about);
        return question == NONE ? NONE : findings.asked[text.sentences][question];
    }

    public int fewest() {
        cover.clear();
        for (int question = 0; question < QUESTIONS; question++) {
            cover.offer(findings.asked[text.sentences][question]);
        }
        return cover.least();
    }

    public int wrong(int kind, int about, int i) {
        int question = questionNumber(kind, about);
        if (question == NONE || kind == HOW_MANY || rightAnswer(question) < 0) {
            return NONE;
        }
        if (kind == WHO_HAS) {
            return choiceBut(rightAnswer(question), text.allNamed(), 0, i);
        }
        return choiceBut(rightAnswer(question), text.allPlaces(), FIRST_PLACE, i);
    }

    public int count(int what) {
        switch (what) {
            case 0:
                return text.sentences;
            case 1:
                return text.begun;
            case 2:
                return ways.size(text.sentences);
            case 3:
                return findings.answered(text.sentences);
            case 4:
                return findings.doubted(text.sentences);
            default:
                return NONE;
        }
    }

    private boolean hasPrefix(int k) {
        return k >= 0 && k <= text.sentences;
    }

    private boolean hasReading(int r) {
        return r >= 0 && r < ways.size(text.sentences);
    }

    private int rightAnswer(int question) {
        return findings.answers[text.sentences][question];
    }

    private boolean wasAnswer(int question, int said) {
        for (int k = 0; k < text.sentences; k++) {
            if (findings.answers[k][question] == said) {
                return true;
            }
        }
        return false;
    }

    private boolean finishSentence() {
        text.cast();
        if (!extendWays(text.sentences)) {
            text.forgetBegun();
            return false;
        }
        text.closeBegun();
        findAnswers(text.sentences);
        return true;
    }

    /** False if the text that ends with the sentence would have no reading, or too many. */
    private boolean extendWays(int sentence) {
        ways.clear(sentence + 1);
        for (int r = 0; r < ways.size(sentence); r++) {
            int choices = ways.choices(sentence, r);
            world.goThrough(text, sentence, choices);
            if (!extendWay(sentence, choices)) {
                return false;
            }
        }
        return ways.size(sentence + 1) > 0;
    }

    /** The world stands ahead of the sentence; least persons come first, so that readings stay in their order. */
    private boolean extendWay(int sentence, int choices) {
        int subjects = Integer.bitCount(text.mayMean(sentence, SUBJECT));
        int receivers = text.verb(sentence) == GIVES ? Integer.bitCount(text.mayMean(sentence, RECEIVER)) : 1;
        for (int subject = 0; subject < subjects; subject++) {
            for (int receiver = 0; receiver < receivers; receiver++) {
                int longer = choices | choiceBit(sentence, SUBJECT, subject) | choiceBit(sentence, RECEIVER, receiver);
                if (world.allows(text, sentence, longer) && !ways.add(sentence + 1, longer)) {
                    return false;
                }
            }
        }
        return true;
    }

    private void findAnswers(int k) {
        for (int r = 0; r < ways.size(k); r++) {
            world.goThrough(text, k, ways.choices(k, r));
            findings.hear(k, world, r == 0);
        }
        findings.close(k);
    }

    private static int choiceBut(int right, int named, int first, int i) {
        int ahead = i;
        for (int bit = 0; bit < PERSONS; bit++) {
            if ((named >> bit & 1) != 0 && first + bit != right) {
                if (ahead == 0) {
                    return first + bit;
                }
                ahead--;
            }
        }
        return NONE;
    }

    private static int choiceBit(int sentence, int which, int choice) {
        return choice << (2 * sentence + which);
    }

    private static int aboutCount(int kind) {
        return kind == WHERE_THING || kind == WHO_HAS ? THINGS : PERSONS;
    }

    private static int questionNumber(int kind, int about) {
        if (kind < 0 || kind >= KINDS || about < 0 || about >= aboutCount(kind)) {
            return NONE;
        }
        switch (kind) {
            case WHERE_PERSON:
                return about;
            case WHERE_THING:
                return PERSONS + about;
            case WHO_HAS:
                return PERSONS + THINGS + about;
            default:
                return PERSONS + 2 * THINGS + about;
        }
    }

    private static boolean isOfKind(int kind, int said) {
        switch (kind) {
            case WHO_HAS:
                return isPerson(said) || said == LIES;
            case HOW_MANY:
                return said >= 0 && said <= THINGS;
            default:
                return isPlace(said);
        }
    }

    private static boolean isPerson(int sign) {
        return sign >= 0 && sign < PERSONS;
    }

    private static boolean isThing(int sign) {
        return sign >= FIRST_THING && sign < FIRST_THING + THINGS;
    }

    private static boolean isPlace(int sign) {
        return sign >= FIRST_PLACE && sign < FIRST_PLACE + PLACES;
    }

    private static boolean isWho(int sign) {
        return isPerson(sign) || sign == HE || sign == SHE;
    }

    /** The signs, and for each subject and receiver the persons (bits) that may be meant. */
    private static final class Text {
        private final int[] signs = new int[MOST_SENTENCES * LONGEST_SENTENCE];
        private final int[] meant = new int[MOST_SENTENCES * 2];
        private int sentences;
        private int begun;

        boolean fits(int sign) {
            if (sentences >= MOST_SENTENCES) {
                return false;
            }
            switch (begun) {
                case 0:
                    return isWho(sign);
                case 1:
                    return sign >= GOES && sign <= GIVES;
                case 2:
                    return verb(sentences) == GOES ? isPlace(sign) : isThing(sign);
                case 3:
                    return verb(sentences) == GIVES ? isWho(sign) : sign == END;
                default:
                    return sign == END;
            }
        }

        /** The sign must fit. */
        void add(int sign) {
            if (sentences < MOST_SENTENCES && begun < LONGEST_SENTENCE) {
                signs[sentences * LONGEST_SENTENCE + begun] = sign;
                begun++;
            }
        }

        void forgetBegun() {
            begun = 0;
        }

        void closeBegun() {
            begun = 0;
            sentences++;
        }

        boolean forgetLatest() {
            if (begun > 0) {
                begun = 0;
                return true;
            }
            if (sentences == 0) {
                return false;
            }
            sentences--;
            return true;
        }

        int signAt(int sentence, int i) {
            if (sentence < 0 || sentence > sentences || sentence >= MOST_SENTENCES) {
                return NONE;
            }
            int length = sentence == sentences ? begun : wholeLength(sentence);
            return i < 0 || i >= length ? NONE : signs[sentence * LONGEST_SENTENCE + i];
        }

        private int wholeLength(int sentence) {
            return verb(sentence) == GIVES ? LONGEST_SENTENCE : LONGEST_SENTENCE - 1;
        }

        int verb(int sentence) {
            return signs[sentence * LONGEST_SENTENCE + 1];
        }

        int object(int sentence) {
            return signs[sentence * LONGEST_SENTENCE + 2];
        }

        /** Finds whom the begun sentence's subject and receiver may mean, once all its signs are there. */
        void cast() {
            int start = sentences * LONGEST_SENTENCE;
            boolean gives = verb(sentences) == GIVES;
            meant[2 * sentences + SUBJECT] = candidates(signs[start]);
            meant[2 * sentences + RECEIVER] = gives ? candidates(signs[start + 3]) : 0;
        }

        private int candidates(int sign) {
            if (isPerson(sign)) {
                return 1 << sign;
            }
            int sort = sign == HE ? MEN : WOMEN;
            for (int sentence = sentences - 1; sentence >= 0; sentence--) {
                if ((named(sentence) & sort) != 0) {
                    return named(sentence) & sort;
                }
            }
            return 0;
        }

        private int named(int sentence) {
            int start = sentence * LONGEST_SENTENCE;
            int persons = personBit(signs[start]);
            return verb(sentence) == GIVES ? persons | personBit(signs[start + 3]) : persons;
        }

        private static int personBit(int sign) {
            return isPerson(sign) ? 1 << sign : 0;
        }

        int allNamed() {
            int persons = 0;
            for (int sentence = 0; sentence < sentences; sentence++) {
                persons |= named(sentence);
            }
            return persons;
        }

        int allPlaces() {
            int places = 0;
            for (int sentence = 0; sentence < sentences; sentence++) {
                if (verb(sentence) == GOES) {
                    places |= 1 << (object(sentence) - FIRST_PLACE);
                }
            }
            return places;
        }

        int mayMean(int sentence, int which) {
            return meant[2 * sentence + which];
        }

        /** The subject or receiver by a reading's choices; NONE if there is nobody. */
        int person(int sentence, int which, int choices) {
            int persons = mayMean(sentence, which);
            if ((choices >> (2 * sentence + which) & 1) != 0) {
                persons &= persons - 1;
            }
            // The bits below the least one that is set are as many as its number.
            return persons == 0 ? NONE : Integer.bitCount((persons & -persons) - 1);
        }
    }

    /**
     * The readings of the first k sentences, for every k up to the whole text, so that going back costs nothing.
     * A reading is a row of choices: a bit for each subject and receiver, set if the greater person is meant.
     */
    private static final class Ways {
        private final int[][] rows = new int[MOST_SENTENCES + 1][MOST_READINGS];
        private final int[] sizes = new int[MOST_SENTENCES + 1];

        Ways() {
            sizes[0] = 1;
        }

        int size(int k) {
            return sizes[k];
        }

        int choices(int k, int r) {
            return rows[k][r];
        }

        void clear(int k) {
            sizes[k] = 0;
        }

        boolean add(int k, int choices) {
            if (sizes[k] >= MOST_READINGS) {
                return false;
            }
            rows[k][sizes[k]] = choices;
            sizes[k]++;
            return true;
        }
    }

    /** What one reading tells, and from which sentences (bits). */
    private static final class World {
        private final int[] places = new int[PERSONS];
        private final int[] placeGrounds = new int[PERSONS];
        private final int[] holders = new int[THINGS];
        private final int[] holderGrounds = new int[THINGS];
        private final int[] spots = new int[THINGS];
        private final int[] spotGrounds = new int[THINGS];

        /** Every sentence must be possible by the choices. */
        void goThrough(Text text, int sentences, int choices) {
            forgetAll();
            for (int sentence = 0; sentence < sentences; sentence++) {
                tell(text, sentence, choices);
            }
        }

        private void forgetAll() {
            for (int person = 0; person < PERSONS; person++) {
                places[person] = NOT_TOLD;
                placeGrounds[person] = 0;
            }
            for (int thing = 0; thing < THINGS; thing++) {
                holders[thing] = NOT_TOLD;
                holderGrounds[thing] = 0;
                spots[thing] = NOT_TOLD;
                spotGrounds[thing] = 0;
            }
        }

        boolean allows(Text text, int sentence, int choices) {
            int subject = text.person(sentence, SUBJECT, choices);
            if (subject == NONE) {
                return false;
            }
            int thing = text.object(sentence) - FIRST_THING;
            switch (text.verb(sentence)) {
                case TAKES:
                    return allowsTaking(subject, thing);
                case DROPS:
                    return mayHave(subject, thing);
                case GIVES:
                    return allowsGiving(subject, thing, text.person(sentence, RECEIVER, choices));
                default:
                    return true;
            }
        }

        private boolean allowsTaking(int subject, int thing) {
            if (holders[thing] == LIES) {
                return mayBeOnePlace(spots[thing], places[subject]);
            }
            return mayHave(subject, thing);
        }

        private boolean allowsGiving(int subject, int thing, int receiver) {
            if (receiver == NONE || receiver == subject) {
                return false;
            }
            return mayHave(subject, thing) && mayBeOnePlace(places[subject], places[receiver]);
        }

        private boolean mayHave(int subject, int thing) {
            return holders[thing] == NOT_TOLD || holders[thing] == subject;
        }

        private static boolean mayBeOnePlace(int one, int other) {
            return one == NOT_TOLD || other == NOT_TOLD || one == other;
        }

        private void tell(Text text, int sentence, int choices) {
            int subject = text.person(sentence, SUBJECT, choices);
            if (subject == NONE) {
                return;
            }
            int bit = 1 << sentence;
            int thing = text.object(sentence) - FIRST_THING;
            switch (text.verb(sentence)) {
                case TAKES:
                    tellTaking(subject, thing, bit);
                    break;
                case DROPS:
                    tellDropping(subject, thing, bit);
                    break;
                case GIVES:
                    tellGiving(subject, thing, text.person(sentence, RECEIVER, choices), bit);
                    break;
                default:
                    places[subject] = text.object(sentence);
                    placeGrounds[subject] = bit;
            }
        }

        private void tellTaking(int subject, int thing, int bit) {
            if (holders[thing] == subject) {
                return;
            }
            if (holders[thing] == LIES) {
                inferPlace(subject, spots[thing], spotGrounds[thing] | bit);
            }
            handTo(subject, thing, bit);
        }

        private void tellDropping(int subject, int thing, int bit) {
            holders[thing] = LIES;
            holderGrounds[thing] = bit;
            spots[thing] = places[subject];
            spotGrounds[thing] = bit | placeGrounds[subject];
        }

        private void tellGiving(int subject, int thing, int receiver, int bit) {
            if (receiver == NONE) {
                return;
            }
            inferPlace(subject, places[receiver], placeGrounds[receiver] | bit);
            inferPlace(receiver, places[subject], placeGrounds[subject] | bit);
            handTo(receiver, thing, bit);
        }

        /** A place that is told already keeps its own grounds. */
        private void inferPlace(int person, int place, int from) {
            if (places[person] == NOT_TOLD && place != NOT_TOLD) {
                places[person] = place;
                placeGrounds[person] = from;
            }
        }

        private void handTo(int person, int thing, int bit) {
            holders[thing] = person;
            holderGrounds[thing] = bit;
        }

        /** What the reading tells to a question that there is: NOT_TOLD, or a sign or number. */
        int value(int kind, int about) {
            switch (kind) {
                case WHERE_PERSON:
                    return places[about];
                case WHERE_THING:
                    return thingPlace(about);
                case WHO_HAS:
                    return holders[about];
                default:
                    return hadThings(about);
            }
        }

        private int thingPlace(int thing) {
            int holder = holders[thing];
            if (holder == LIES) {
                return spots[thing];
            }
            return isPerson(holder) ? places[holder] : NOT_TOLD;
        }

        private int hadThings(int person) {
            int had = 0;
            for (int thing = 0; thing < THINGS; thing++) {
                if (holders[thing] == person) {
                    had++;
                }
            }
            return had;
        }

        /** The grounds of a question that there is; none (0) of what is not told. */
        int basis(int kind, int about) {
            switch (kind) {
                case WHERE_PERSON:
                    return placeGrounds[about];
                case WHERE_THING:
                    return thingPlaceBasis(about);
                case WHO_HAS:
                    return holderGrounds[about];
                default:
                    return hadThingsBasis(about);
            }
        }

        private int thingPlaceBasis(int thing) {
            int holder = holders[thing];
            if (holder == LIES) {
                return spots[thing] == NOT_TOLD ? 0 : spotGrounds[thing];
            }
            boolean isTold = isPerson(holder) && places[holder] != NOT_TOLD;
            return isTold ? holderGrounds[thing] | placeGrounds[holder] : 0;
        }

        private int hadThingsBasis(int person) {
            int basis = 0;
            for (int thing = 0; thing < THINGS; thing++) {
                if (holders[thing] == person) {
                    basis |= holderGrounds[thing];
                }
            }
            return basis;
        }
    }

    /** Answer, level and what is asked for, of each question by the first k sentences, for every k. */
    private static final class Findings {
        private final int[][] answers = new int[MOST_SENTENCES + 1][QUESTIONS];
        private final int[][] levels = new int[MOST_SENTENCES + 1][QUESTIONS];
        private final int[][] asked = new int[MOST_SENTENCES + 1][QUESTIONS];

        void hear(int k, World world, boolean first) {
            for (int kind = 0; kind < KINDS; kind++) {
                for (int about = 0; about < aboutCount(kind); about++) {
                    int question = questionNumber(kind, about);
                    if (first) {
                        begin(k, question, world.value(kind, about), world.basis(kind, about));
                    } else {
                        join(k, question, world.value(kind, about), world.basis(kind, about));
                    }
                }
            }
        }

        private void begin(int k, int question, int value, int basis) {
            answers[k][question] = value;
            levels[k][question] = Integer.bitCount(basis);
            asked[k][question] = basis;
        }

        private void join(int k, int question, int value, int basis) {
            if (answers[k][question] != value) {
                answers[k][question] = IN_DOUBT;
            }
            levels[k][question] = Math.max(levels[k][question], Integer.bitCount(basis));
            asked[k][question] &= basis;
        }

        void close(int k) {
            for (int question = 0; question < QUESTIONS; question++) {
                if (answers[k][question] < 0) {
                    asked[k][question] = 0;
                }
            }
        }

        int answered(int k) {
            int found = 0;
            for (int question = 0; question < QUESTIONS; question++) {
                if (answers[k][question] >= 0) {
                    found++;
                }
            }
            return found;
        }

        int doubted(int k) {
            int found = 0;
            for (int question = 0; question < QUESTIONS; question++) {
                if (answers[k][question] == IN_DOUBT) {
                    found++;
                }
            }
            return found;
        }
    }

    /** Finds how few of the offered sets hold together all that any of them holds. */
    private static final class Cover {
        private final int[] sets = new int[QUESTIONS];
        private int size;
        private int all;

        void clear() {
            size = 0;
            all = 0;
        }

        /** A set inside another one is never needed, so it is not kept. */
        void offer(int set) {
            for (int i = 0; i < size; i++) {
                if ((set & ~sets[i]) == 0) {
                    return;
                }
            }
            int kept = 0;
            for (int i = 0; i < size; i++) {
                if ((sets[i] & ~set) != 0) {
                    sets[kept] = sets[i];
                    kept++;
                }
            }
            if (kept < QUESTIONS) {
                sets[kept] = set;
                size = kept + 1;
                all |= set;
            }
        }

        int least() {
            for (int picks = 0; picks < MOST_SENTENCES; picks++) {
                if (suffice(sets, size, all, picks)) {
                    return picks;
                }
            }
            return MOST_SENTENCES;
        }

        /** Whether so many of the sets hold all that is left; picks go down, so the depth is 14 at most. */
        private static boolean suffice(int[] sets, int size, int left, int picks) {
            if (left == 0) {
                return true;
            }
            if (picks * widest(sets, size, left) < Integer.bitCount(left)) {
                return false;
            }
            int hardest = rarest(sets, size, left);
            for (int i = 0; i < size; i++) {
                if ((sets[i] & hardest) != 0 && suffice(sets, size, left & ~sets[i], picks - 1)) {
                    return true;
                }
            }
            return false;
        }

        private static int widest(int[] sets, int size, int left) {
            int most = 0;
            for (int i = 0; i < size; i++) {
                most = Math.max(most, Integer.bitCount(sets[i] & left));
            }
            return most;
        }

        /** The bit that the fewest sets hold leaves the fewest ways to try. */
        private static int rarest(int[] sets, int size, int left) {
            int rare = 0;
            int fewestHolders = QUESTIONS + 1;
            for (int bit = 0; bit < MOST_SENTENCES; bit++) {
                int holders = (left >> bit & 1) == 0 ? fewestHolders : holdersOf(sets, size, 1 << bit);
                if (holders < fewestHolders) {
                    fewestHolders = holders;
                    rare = 1 << bit;
                }
            }
            return rare;
        }

        private static int holdersOf(int[] sets, int size, int bit) {
            int found = 0;
            for (int i = 0; i < size; i++) {
                if ((sets[i] & bit) != 0) {
                    found++;
                }
            }
            return found;
        }
    }
}
