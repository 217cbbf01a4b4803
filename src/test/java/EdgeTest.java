import java.util.ArrayList;
import java.util.Arrays;
import java.util.HashMap;
import java.util.List;
import java.util.Locale;
import java.util.Map;
import java.util.Set;
import java.util.TreeSet;

/**
 * Each sentence of the document that names a boundary case, promise by promise. Behind a call that is refused (NONE or
 * false) every other call must answer as if it had not been made, so it is followed by all questions that there are,
 * and by a row of further signs. No object gets more than 512 calls: beyond them the document promises nothing.
 */
public final class EdgeTest {
    private static final int MOST_CALLS = 512;
    private static final int GOES = 30;
    private static final int TAKES = 31;
    private static final int DROPS = 32;
    private static final int GIVES = 33;
    private static final int HE = 40;
    private static final int SHE = 41;
    private static final int END = 50;
    private static final int NONE = TextAsker.NONE;
    private static final int NOT_TOLD = -2;
    private static final int IN_DOUBT = -3;
    private static final int LIES = 9;

    private static final int[] WHO = {0, 1, 2, 3, 4, 5, 6, 7, HE, SHE};
    private static final int[] THINGS = {10, 11, 12, 13, 14, 15, 16, 17, 18, 19};
    private static final int[] PLACES = {20, 21, 22, 23, 24, 25, 26, 27};
    private static final int[] VERBS = {GOES, TAKES, DROPS, GIVES};
    private static final int[] SAID = {-3, -2, -1, 0, 1, 2, 7, 8, 9, 10, 11, 19, 20, 21, 22, 27, 28};

    private static final List<Call> EMPTY = List.of();
    private static final List<Call> SMALL = text(s(0, GIVES, 10, 2), s(HE, GOES, 20), s(1, GOES, 21), s(1, DROPS, 11));
    private static final List<Call> BEGUN = behind(SMALL, signs(HE, GIVES, 12));
    private static final int[][] FULL_SENTENCES = {
        s(0, GOES, 20), s(1, GOES, 21), s(2, GOES, 22), s(3, GOES, 23), s(4, GOES, 24), s(5, GOES, 25), s(6, GOES, 26),
        s(7, GOES, 27), s(0, GOES, 22), s(0, GIVES, 10, 2), s(HE, TAKES, 11), s(HE, TAKES, 12), s(1, DROPS, 13),
        s(5, TAKES, 14)
    };
    private static final List<Call> FULL = text(FULL_SENTENCES);
    private static final int[][] MANY_SENTENCES = {
        s(0, GIVES, 10, 2), s(HE, TAKES, 11), s(HE, TAKES, 12), s(HE, TAKES, 13), s(HE, TAKES, 14), s(HE, TAKES, 15),
        s(HE, TAKES, 16)
    };
    private static final List<Call> MANY = text(MANY_SENTENCES);

    private static final Map<List<Call>, List<Call>> QUESTIONS_OF = new HashMap<>();
    private static final Map<List<Call>, int[]> ANSWERS_OF = new HashMap<>();
    private static int failures = 0;
    private static int checks = 0;

    public static void main(String[] args) {
        promise1();
        promise2();
        terms();
        promise3();
        promise4();
        promise5();
        promise6();
        promise7();
        promise8();
        promise9();
        promise10();
        promise11();
        promise12();
        promise13();
        promise14();
        callsInOneObject();
        System.out.println(checks + " checks, " + failures + " failed");
        if (failures != 0) {
            System.exit(1);
        }
    }

    // ---- calls, and rows of them on a new object

    private enum Name {
        SIGN(1), BACK(0), TOLD(2), READINGS(1), MEANS(3), ANSWER(3), LEVEL(3), GROUNDS(3), JUDGE(3), ASKS(2), FEWEST(0),
        WRONG(3), COUNT(1);

        final int parameters;

        Name(int parameters) {
            this.parameters = parameters;
        }
    }

    private record Call(Name name, int a, int b, int c) {
        int on(TextAsker x) {
            return switch (name) {
                case SIGN -> x.sign(a) ? 1 : 0;
                case BACK -> x.back() ? 1 : 0;
                case TOLD -> x.told(a, b);
                case READINGS -> x.readings(a);
                case MEANS -> x.means(a, b, c);
                case ANSWER -> x.answer(a, b, c);
                case LEVEL -> x.level(a, b, c);
                case GROUNDS -> x.grounds(a, b, c);
                case JUDGE -> x.judge(a, b, c);
                case ASKS -> x.asks(a, b);
                case FEWEST -> x.fewest();
                case WRONG -> x.wrong(a, b, c);
                case COUNT -> x.count(a);
            };
        }

        @Override
        public String toString() {
            int[] all = {a, b, c};
            String given = Arrays.toString(Arrays.copyOf(all, name.parameters));
            return name.name().toLowerCase(Locale.ROOT) + "(" + given.substring(1, given.length() - 1) + ")";
        }
    }

    private static Call call(Name name, int... given) {
        int[] all = Arrays.copyOf(given, 3);
        return new Call(name, all[0], all[1], all[2]);
    }

    private static int[] s(int... signs) {
        return signs;
    }

    private static Call[] signs(int... signs) {
        Call[] calls = new Call[signs.length];
        for (int i = 0; i < signs.length; i++) {
            calls[i] = call(Name.SIGN, signs[i]);
        }
        return calls;
    }

    private static Call[] sentence(int... signs) {
        int[] ended = Arrays.copyOf(signs, signs.length + 1);
        ended[signs.length] = END;
        return signs(ended);
    }

    private static Call[] backs(int times) {
        Call[] calls = new Call[times];
        Arrays.fill(calls, call(Name.BACK));
        return calls;
    }

    private static List<Call> text(int[]... sentences) {
        List<Call> row = new ArrayList<>();
        for (int[] one : sentences) {
            row.addAll(Arrays.asList(sentence(one)));
        }
        return List.copyOf(row);
    }

    private static List<Call> behind(List<Call> row, Call... more) {
        List<Call> longer = new ArrayList<>(row);
        longer.addAll(Arrays.asList(more));
        return List.copyOf(longer);
    }

    private static TextAsker replay(List<Call> row) {
        TextAsker x = new TextAsker();
        for (Call one : row) {
            one.on(x);
        }
        return x;
    }

    private static int bits(int... sentences) {
        int all = 0;
        for (int sentence : sentences) {
            all |= 1 << sentence;
        }
        return all;
    }

    // ---- checks

    private static void same(String what, long got, long due) {
        checks++;
        if (got != due) {
            failures++;
            System.out.println(what + ": answered " + got + ", due is " + due);
        }
    }

    private static void due(String what, List<Call> row, int due, Name name, int... given) {
        Call one = call(name, given);
        same(what + ": " + one + " behind " + brief(row), one.on(replay(row)), due);
        if (due == NONE) {
            sameState(what, row, behind(row, one));
        }
    }

    /** Every sign of the row is taken: else the test itself would be about another text than it says. */
    private static void taken(String what, List<Call> row) {
        taken(what, EMPTY, row);
    }

    private static void taken(String what, List<Call> row, List<Call> more) {
        TextAsker x = replay(row);
        for (Call one : more) {
            same(what + ": " + one + " of " + brief(more) + " behind " + brief(row), one.on(x), 1);
        }
    }

    /** Signs as bare numbers: a text is read more easily so. */
    private static String brief(List<Call> row) {
        StringBuilder all = new StringBuilder("[");
        for (Call one : row) {
            all.append(all.length() == 1 ? "" : " ").append(one.name() == Name.SIGN ? String.valueOf(one.a()) : one);
        }
        return all.append("]").toString();
    }

    private static void refused(String what, List<Call> row, int due, Call one) {
        same(what + ": " + one + " behind " + brief(row), one.on(replay(row)), due);
        sameState(what, row, behind(row, one));
    }

    private static void none(String what, List<Call> row, Name name, int... given) {
        refused(what, row, NONE, call(name, given));
    }

    private static void refusedSign(String what, List<Call> row, int sign) {
        refused(what, row, 0, call(Name.SIGN, sign));
    }

    /** The signs of the sentence are taken, its end is not; what was begun goes, and nothing else. */
    private static void impossible(String what, List<Call> row, int... signs) {
        List<Call> begun = behind(row, signs(signs));
        taken(what, row, List.of(signs(signs)));
        due(what, begun, 0, Name.SIGN, END);
        sameState(what, row, behind(begun, call(Name.SIGN, END)));
    }

    private static void possible(String what, List<Call> row, int... signs) {
        taken(what, behind(row, sentence(signs)));
    }

    private static void sameState(String what, List<Call> dueRow, List<Call> row) {
        List<Call> questions = QUESTIONS_OF.computeIfAbsent(dueRow, EdgeTest::questions);
        int[] due = ANSWERS_OF.computeIfAbsent(dueRow, one -> answers(one, questions));
        compare(what, dueRow, row, questions, due, answers(row, questions));
        List<Call> later = furtherCalls();
        compare(what, dueRow, row, later, answers(dueRow, later), answers(row, later));
    }

    private static void compare(String what, List<Call> dueRow, List<Call> row, List<Call> asked, int[] due,
            int[] got) {
        checks++;
        int at = Arrays.mismatch(due, got);
        if (at >= 0) {
            failures++;
            System.out.println(what + ": " + asked.get(at) + " answered " + got[at] + " behind " + brief(row)
                    + ", due is " + due[at] + " as behind " + brief(dueRow));
        }
    }

    /** A new object as soon as one has had its 512 calls. */
    private static int[] answers(List<Call> row, List<Call> asked) {
        int[] got = new int[asked.size()];
        int room = MOST_CALLS - row.size();
        TextAsker x = null;
        for (int i = 0; i < got.length; i++) {
            if (i % room == 0) {
                x = replay(row);
            }
            got[i] = asked.get(i).on(x);
        }
        return got;
    }

    private static List<Call> questions(List<Call> row) {
        TextAsker x = replay(row);
        int sentences = x.count(0);
        int readings = x.count(2);
        List<Call> all = new ArrayList<>();
        for (int k = 0; k <= sentences + 1; k++) {
            all.add(call(Name.READINGS, k));
            for (int i = 0; i < 6; i++) {
                all.add(call(Name.TOLD, k, i));
            }
            for (int r = 0; r <= readings; r++) {
                all.add(call(Name.MEANS, k, 0, r));
                all.add(call(Name.MEANS, k, 1, r));
            }
        }
        for (int kind = 0; kind < 4; kind++) {
            for (int about = 0; about < abouts(kind); about++) {
                addQuestion(all, kind, about, sentences, readings);
            }
        }
        for (int what = 0; what < 5; what++) {
            all.add(call(Name.COUNT, what));
        }
        all.add(call(Name.FEWEST));
        return all;
    }

    private static void addQuestion(List<Call> all, int kind, int about, int sentences, int readings) {
        for (int k = 0; k <= sentences; k++) {
            all.add(call(Name.ANSWER, kind, about, k));
            all.add(call(Name.LEVEL, kind, about, k));
        }
        for (int r = 0; r < readings; r++) {
            all.add(call(Name.GROUNDS, kind, about, r));
        }
        for (int said : SAID) {
            all.add(call(Name.JUDGE, kind, about, said));
        }
        for (int i = 0; i < 9; i++) {
            all.add(call(Name.WRONG, kind, about, i));
        }
        all.add(call(Name.ASKS, kind, about));
    }

    private static int abouts(int kind) {
        return kind == 1 || kind == 2 ? 10 : 8;
    }

    /** Ends what may be begun, goes on with the text, and takes some of it back. */
    private static List<Call> furtherCalls() {
        List<Call> all = new ArrayList<>();
        Call[] begun = signs(END, 4, GIVES, 12, 20, 6, END, END);
        Call[] he = sentence(HE, TAKES, 17);
        Call[] goes = sentence(3, GOES, 26);
        for (Call[] part : new Call[][] {begun, he, goes, backs(1), goes, backs(3), he, goes}) {
            all.addAll(Arrays.asList(part));
            for (int what = 0; what < 5; what++) {
                all.add(call(Name.COUNT, what));
            }
            all.add(call(Name.FEWEST));
        }
        return all;
    }

    /** Numbers too small and too great, the far ones too, and those whose low bits look like a good one. */
    private static int[] outside(int least, int greatest) {
        Set<Integer> all = new TreeSet<>();
        for (int near = 1; near <= 3; near++) {
            all.addAll(List.of(least - near, greatest + near));
        }
        all.addAll(List.of(Integer.MIN_VALUE, Integer.MIN_VALUE + 1, Integer.MAX_VALUE, Integer.MAX_VALUE - 1));
        int[] steps = {16, 32, 64, 256, 1 << 16, 1 << 28, 1 << 30, Integer.MIN_VALUE};
        for (int step : steps) {
            all.addAll(List.of(least + step, least - step, greatest + step, greatest - step));
        }
        all.removeIf(number -> number >= least && number <= greatest);
        return all.stream().mapToInt(Integer::intValue).toArray();
    }

    // ---- promise by promise

    private static void promise1() {
        String what = "1: an empty text";
        for (int kind = 0; kind < 4; kind++) {
            for (int about = 0; about < abouts(kind); about++) {
                due(what, EMPTY, kind == 3 ? 0 : NOT_TOLD, Name.ANSWER, kind, about, 0);
                due(what, EMPTY, 0, Name.LEVEL, kind, about, 0);
                due(what, EMPTY, 0, Name.GROUNDS, kind, about, 0);
                due(what, EMPTY, 0, Name.ASKS, kind, about);
                due(what, EMPTY, kind == 3 ? 0 : NONE, Name.JUDGE, kind, about, 0);
                none(what, EMPTY, Name.WRONG, kind, about, 0);
            }
        }
        int[] counts = {0, 0, 1, 8, 0};
        for (int i = 0; i < counts.length; i++) {
            due(what, EMPTY, counts[i], Name.COUNT, i);
        }
        due(what, EMPTY, 1, Name.READINGS, 0);
        due(what, EMPTY, 0, Name.FEWEST);
        none(what, EMPTY, Name.TOLD, 0, 0);
        none(what, EMPTY, Name.MEANS, 0, 0, 0);
        objectsAreApart();
    }

    private static void objectsAreApart() {
        TextAsker one = replay(SMALL);
        TextAsker other = new TextAsker();
        same("1: another object is empty", other.count(0), 0);
        for (Call sign : sentence(3, GOES, 25)) {
            sign.on(other);
        }
        same("1: the one keeps its sentences", one.count(0), 4);
        same("1: and its readings", one.count(2), 2);
        same("1: and its answers", one.answer(0, 3, 4), NOT_TOLD);
        same("1: the other has its own", other.answer(0, 3, 1), 25);
    }

    private static void promise2() {
        for (List<Call> row : List.of(EMPTY, SMALL)) {
            onlyThese(row, s(), WHO);
            onlyThese(row, s(7), VERBS);
            onlyThese(row, s(HE), VERBS);
            onlyThese(row, s(SHE), VERBS);
            onlyThese(row, s(1, GOES), PLACES);
            onlyThese(row, s(1, TAKES), THINGS);
            onlyThese(row, s(1, DROPS), THINGS);
            onlyThese(row, s(1, GIVES), THINGS);
            onlyThese(row, s(1, GIVES, 19), WHO);
            onlyThese(row, s(1, GOES, 27), s(END));
            onlyThese(row, s(1, TAKES, 12), s(END));
            onlyThese(row, s(1, DROPS, 12), s(END));
            onlyThese(row, s(1, GIVES, 19, 3), s(END));
        }
        fourteenSentences();
        noReading();
        moreThan64();
    }

    /** "False (and nothing changes) if it can't stand there". */
    private static void onlyThese(List<Call> row, int[] ahead, int[] fitting) {
        List<Call> begun = behind(row, signs(ahead));
        taken("2: ahead", begun);
        Set<Integer> tried = new TreeSet<>();
        for (int sign = -2; sign <= 52; sign++) {
            tried.add(sign);
        }
        for (int sign : outside(0, END)) {
            tried.add(sign);
        }
        int sentences = replay(row).count(0);
        for (int sign : tried) {
            if (Arrays.stream(fitting).noneMatch(fit -> fit == sign)) {
                refusedSign("2: it can't stand there", begun, sign);
                continue;
            }
            taken("2: it can stand there", behind(begun, signs(sign)));
            due("2: the next sign", behind(begun, signs(sign)), sign, Name.TOLD, sentences, ahead.length);
            due("2: begun", behind(begun, signs(sign)), sign == END ? 0 : ahead.length + 1, Name.COUNT, 1);
        }
    }

    private static List<Call> firstOf(int[][] sentences, int count) {
        return text(Arrays.copyOf(sentences, count));
    }

    /** "or 14 SENTENCES are there". */
    private static void fourteenSentences() {
        taken("2: 14 sentences may be", FULL);
        due("2: 14 sentences", FULL, 14, Name.COUNT, 0);
        for (int sign = -2; sign <= 52; sign++) {
            refusedSign("2: 14 sentences are there", FULL, sign);
        }
        for (int sign : outside(0, END)) {
            refusedSign("2: 14 sentences are there", FULL, sign);
        }
        List<Call> thirteen = firstOf(FULL_SENTENCES, 13);
        impossible("2: the 14th isn't possible", thirteen, 3, TAKES, 10);
        List<Call> refused = behind(thirteen, sentence(3, TAKES, 10));
        sameState("2: another 14th is", FULL, behind(refused, sentence(5, TAKES, 14)));
        List<Call> again = behind(behind(FULL, backs(1)), sentence(5, TAKES, 14));
        sameState("2: the 14th again", FULL, again);
        refusedSign("2: 14 again", again, 0);
    }

    /** "a 50 also, if there would be no READING". */
    private static void noReading() {
        impossible("2: he is nobody in the first sentence", EMPTY, HE, GOES, 20);
        impossible("2: she is nobody in the first sentence", EMPTY, SHE, TAKES, 10);
        impossible("2: the receiver is nobody", EMPTY, 0, GIVES, 10, HE);
        impossible("2: no reading of two", text(s(0, GOES, 20), s(2, GOES, 21), s(0, TAKES, 10)), 2, DROPS, 10);
        List<Call> two = text(s(0, GIVES, 10, 2), s(HE, TAKES, 11), s(0, GOES, 20), s(2, GOES, 20));
        impossible("2: neither reading is left", two, 4, TAKES, 11);
        possible("2: one reading is left", two, 2, DROPS, 11);
        due("2: one reading is left", behind(two, sentence(2, DROPS, 11)), 1, Name.COUNT, 2);
        List<Call> refused = behind(SMALL, sentence(0, TAKES, 10));
        due("2: the begun one went, so back takes the last", behind(refused, backs(1)), 3, Name.COUNT, 0);
        sameState("2: back behind a refused end", firstOf(new int[][] {s(0, GIVES, 10, 2), s(HE, GOES, 20),
            s(1, GOES, 21)}, 3), behind(refused, backs(1)));
        refusedSign("2: a second end has nothing to end", refused, END);
    }

    /** "or more than 64: the whole SENTENCE that was begun goes then". */
    private static void moreThan64() {
        taken("2: 64 readings may be", MANY);
        due("2: 64 readings", MANY, 64, Name.COUNT, 2);
        impossible("2: 128 readings", MANY, HE, TAKES, 17);
        possible("2: 64 without a new choice", MANY, 0, TAKES, 17);
        possible("2: 64 by what each one has", MANY, HE, DROPS, 16);
        due("2: still 64", behind(MANY, sentence(HE, DROPS, 16)), 64, Name.COUNT, 2);
        // ModelTest counts the readings of this text with the ninth sentence: 65.
        List<Call> eight = text(s(0, GIVES, 10, 2), s(HE, GOES, 20), s(HE, GIVES, 13, 1), s(HE, GOES, 21),
                s(HE, DROPS, 11), s(HE, GIVES, 10, 1), s(HE, GOES, 20), s(HE, GOES, 21));
        taken("2: eight of them", eight);
        impossible("2: 65 readings", eight, HE, TAKES, 11);
    }

    private static void terms() {
        whomHeMeans();
        taking();
        takingElsewhere();
        dropping();
        giving();
        givingPlaces();
    }

    /** "nobody, if there is none", and what "NAMED" and "ahead of this one" leave out. */
    private static void whomHeMeans() {
        List<Call> women = text(s(1, GIVES, 10, 3));
        impossible("he: women alone are named", women, HE, GOES, 20);
        impossible("he: a man is named in the same sentence alone", women, HE, GIVES, 11, 0);
        impossible("he: also as receiver", women, 0, GIVES, 11, HE);
        List<Call> men = text(s(6, GIVES, 10, 4));
        impossible("she: men alone are named", men, SHE, GOES, 20);
        impossible("she: a woman is named in the same sentence alone", men, SHE, GIVES, 11, 7);
        List<Call> refused = behind(women, sentence(0, TAKES, 10));
        due("he: the sentence isn't possible", women, NONE, Name.TOLD, 1, 0);
        impossible("he: a man in a refused sentence isn't named", refused, HE, GOES, 20);
        List<Call> takenBack = behind(behind(women, sentence(0, TAKES, 11)), backs(1));
        impossible("he: a man in a sentence taken back isn't named", takenBack, HE, GOES, 20);
        List<Call> begunBack = behind(behind(women, signs(0, TAKES, 11)), backs(1));
        impossible("he: nor in one that was begun", begunBack, HE, GOES, 20);
        List<Call> far = text(s(0, GIVES, 10, 2), s(1, GOES, 20), s(HE, TAKES, 11), s(3, GOES, 21), s(HE, TAKES, 12));
        taken("he: far ahead", far);
        due("he: he is not named by he", far, 4, Name.COUNT, 2);
        due("he: the least first", far, 0, Name.MEANS, 4, 0, 0);
        due("he: then the other", far, 2, Name.MEANS, 4, 0, 1);
        List<Call> latest = text(s(0, GIVES, 10, 2), s(4, GIVES, 11, 1), s(HE, TAKES, 12));
        due("he: the latest sentence alone", latest, 1, Name.COUNT, 2);
        due("he: its man", latest, 4, Name.MEANS, 2, 0, 0);
        due("she: its woman", behind(latest, sentence(SHE, GOES, 20)), 1, Name.MEANS, 3, 0, 0);
    }

    private static void taking() {
        List<Call> had = text(s(0, TAKES, 10));
        impossible("takes: another one has it", had, 2, TAKES, 10);
        List<Call> together = behind(had, joined(s(0, GOES, 20), s(2, GOES, 20)));
        impossible("takes: another one at the same place", together, 2, TAKES, 10);
        List<Call> twice = behind(had, joined(s(0, GOES, 20), s(0, TAKES, 10)));
        taken("takes: they had it already", twice);
        due("takes: nothing is new", twice, bits(0), Name.GROUNDS, 2, 0, 0);
        due("takes: nothing is new", twice, bits(0, 1), Name.GROUNDS, 1, 0, 0);
        due("takes: nothing is new", twice, bits(0), Name.GROUNDS, 3, 0, 0);
        due("takes: nor more had", twice, 1, Name.ANSWER, 3, 0, 3);
        possible("takes: a thing of which nothing is told", EMPTY, 5, TAKES, 19);
        List<Call> given = text(s(0, TAKES, 10), s(0, GIVES, 10, 2), s(2, GIVES, 10, 0));
        due("takes: the latest by which they came to have it", given, bits(2), Name.GROUNDS, 2, 0, 0);
        impossible("takes: it was given away", text(s(0, TAKES, 10), s(0, GIVES, 10, 2)), 0, TAKES, 10);
    }

    private static Call[] joined(int[]... sentences) {
        return text(sentences).toArray(new Call[0]);
    }

    private static void takingElsewhere() {
        List<Call> lies = text(s(0, GOES, 20), s(0, DROPS, 10));
        impossible("takes: it lies at another place", behind(lies, sentence(1, GOES, 21)), 1, TAKES, 10);
        impossible("takes: who dropped it went away", behind(lies, sentence(0, GOES, 27)), 0, TAKES, 10);
        List<Call> here = behind(lies, joined(s(1, GOES, 20), s(1, TAKES, 10)));
        taken("takes: it lies here", here);
        due("takes: a told place keeps its grounds", here, bits(2), Name.GROUNDS, 0, 1, 0);
        List<Call> follows = behind(lies, sentence(1, TAKES, 10));
        taken("takes: the subject's place isn't told", follows);
        due("takes: the subject is there", follows, 20, Name.ANSWER, 0, 1, 3);
        due("takes: from these", follows, bits(0, 1, 2), Name.GROUNDS, 0, 1, 0);
        impossible("takes: what follows binds", behind(follows, sentence(3, GOES, 21)), 1, GIVES, 10, 3);
        List<Call> unknown = text(s(0, DROPS, 10), s(0, GOES, 20), s(1, GOES, 21));
        List<Call> anywhere = behind(unknown, sentence(1, TAKES, 10));
        taken("takes: it lies nobody knows where", anywhere);
        due("takes: nothing follows", anywhere, 21, Name.ANSWER, 0, 1, 4);
        List<Call> neither = behind(unknown, sentence(3, TAKES, 10));
        taken("takes: neither place is told", neither);
        due("takes: nothing follows", neither, NOT_TOLD, Name.ANSWER, 0, 3, 4);
        due("takes: nothing follows", neither, 0, Name.GROUNDS, 0, 3, 0);
    }

    private static void dropping() {
        List<Call> had = text(s(0, TAKES, 10));
        impossible("drops: another one has it", had, 1, DROPS, 10);
        List<Call> unknown = behind(had, sentence(0, DROPS, 10));
        taken("drops: who has it", unknown);
        due("drops: it lies", unknown, LIES, Name.ANSWER, 2, 0, 2);
        due("drops: nobody knows where", unknown, NOT_TOLD, Name.ANSWER, 1, 0, 2);
        impossible("drops: it lies, nobody knows where", unknown, 0, DROPS, 10);
        impossible("drops: also for another one", unknown, 1, DROPS, 10);
        impossible("gives: it lies, nobody knows where", unknown, 0, GIVES, 10, 1);
        List<Call> later = behind(unknown, sentence(0, GOES, 20));
        due("drops: where one goes later tells nothing", later, NOT_TOLD, Name.ANSWER, 1, 0, 3);
        impossible("drops: nor does it lie less", later, 0, DROPS, 10);
        List<Call> told = text(s(0, GOES, 20), s(0, DROPS, 10));
        taken("drops: a thing of which nothing is told", told);
        due("drops: at the subject's place", told, 20, Name.ANSWER, 1, 0, 2);
        impossible("drops: it is told to lie", told, 0, DROPS, 10);
        impossible("gives: it is told to lie", told, 0, GIVES, 10, 2);
        impossible("drops: what was given away", text(s(0, GIVES, 10, 1)), 0, DROPS, 10);
    }

    private static void giving() {
        List<Call> had = text(s(0, TAKES, 10));
        impossible("gives: another one has it", had, 1, GIVES, 10, 3);
        impossible("gives: the receiver has it", had, 1, GIVES, 10, 0);
        impossible("gives: receiver and subject are one", had, 0, GIVES, 10, 0);
        impossible("gives: he is the subject", had, 0, GIVES, 10, HE);
        impossible("gives: he is the receiver", had, HE, GIVES, 10, 0);
        impossible("gives: he to him, with one man", had, HE, GIVES, 10, HE);
        impossible("gives: she to her, with one woman", text(s(1, GOES, 20)), SHE, GIVES, 11, SHE);
        possible("gives: who has it", had, 0, GIVES, 10, 1);
        possible("gives: a thing of which nothing is told", EMPTY, 0, GIVES, 10, 1);
        List<Call> two = text(s(0, GIVES, 10, 2), s(HE, GIVES, 11, HE));
        taken("gives: he to him, with two men", two);
        due("gives: never to oneself", two, 2, Name.COUNT, 2);
        due("gives: 0 to 2", two, 2, Name.MEANS, 1, 1, 0);
        due("gives: 2 to 0", two, 0, Name.MEANS, 1, 1, 1);
        List<Call> itself = text(s(0, GIVES, 10, 2), s(HE, GIVES, 11, 2));
        taken("gives: he to one of the two", itself);
        due("gives: he is the other one", itself, 1, Name.COUNT, 2);
        due("gives: he is the other one", itself, 0, Name.MEANS, 1, 0, 0);
    }

    private static void givingPlaces() {
        List<Call> apart = text(s(0, GOES, 20), s(1, GOES, 21));
        impossible("gives: the places aren't one", apart, 0, GIVES, 10, 1);
        impossible("gives: nor the other way", apart, 1, GIVES, 10, 0);
        List<Call> together = behind(apart, joined(s(1, GOES, 20), s(0, GIVES, 10, 1)));
        taken("gives: the places are one", together);
        due("gives: the giver's keeps its grounds", together, bits(0), Name.GROUNDS, 0, 0, 0);
        due("gives: the receiver's keeps its grounds", together, bits(2), Name.GROUNDS, 0, 1, 0);
        List<Call> receiver = behind(apart, sentence(0, GIVES, 10, 3));
        due("gives: the receiver is there, too", receiver, 20, Name.ANSWER, 0, 3, 3);
        due("gives: from these", receiver, bits(0, 2), Name.GROUNDS, 0, 3, 0);
        impossible("gives: this binds", receiver, 3, GIVES, 10, 1);
        List<Call> giver = behind(apart, sentence(3, GIVES, 10, 1));
        due("gives: the giver is there, too", giver, 21, Name.ANSWER, 0, 3, 3);
        due("gives: from these", giver, bits(1, 2), Name.GROUNDS, 0, 3, 0);
        List<Call> neither = behind(apart, sentence(3, GIVES, 10, 5));
        due("gives: neither is told", neither, NOT_TOLD, Name.ANSWER, 0, 3, 3);
        due("gives: neither is told", neither, NOT_TOLD, Name.ANSWER, 0, 5, 3);
        List<Call> later = behind(neither, sentence(3, GOES, 22));
        due("gives: what is told later doesn't follow back", later, NOT_TOLD, Name.ANSWER, 0, 5, 4);
    }

    /** "The SENTENCE that was begun goes; if none was, the last one: true; false if there is nothing." */
    private static void promise3() {
        refused("3: there is nothing", EMPTY, 0, call(Name.BACK));
        List<Call> nothingAgain = behind(SMALL, backs(4));
        taken("3: as often as there are sentences", nothingAgain);
        sameState("3: to nothing", EMPTY, nothingAgain);
        refused("3: there is nothing any more", nothingAgain, 0, call(Name.BACK));
        int[] begun = {1, GIVES, 12, 3};
        for (List<Call> row : List.of(EMPTY, SMALL, firstOf(FULL_SENTENCES, 13))) {
            for (int length = 1; length <= begun.length; length++) {
                List<Call> back = behind(behind(row, signs(Arrays.copyOf(begun, length))), backs(1));
                taken("3: the begun one", back);
                sameState("3: the begun one goes alone", row, back);
            }
        }
        List<Call> wrongSign = behind(behind(SMALL, signs(1, GIVES, 20)), backs(1));
        sameState("3: the begun one, behind a refused sign", SMALL, wrongSign);
        for (int times = 1; times <= 14; times++) {
            List<Call> row = firstOf(FULL_SENTENCES, 14 - times);
            taken("3: the last one", behind(FULL, backs(times)));
            sameState("3: the last one goes", row, behind(FULL, backs(times)));
        }
        refused("3: nothing behind fourteen", behind(FULL, backs(14)), 0, call(Name.BACK));
        sameState("3: readings come back", firstOf(MANY_SENTENCES, 5), behind(MANY, backs(2)));
        staleSigns();
    }

    /** What stood there once must not shine through what stands there now. */
    private static void staleSigns() {
        List<Call> longer = text(s(0, GIVES, 10, 2));
        List<Call> shorter = behind(behind(longer, backs(1)), sentence(0, GOES, 20));
        sameState("3: a shorter sentence instead", text(s(0, GOES, 20)), shorter);
        sameState("3: a longer sentence instead", longer, behind(behind(shorter, backs(1)), sentence(0, GIVES, 10, 2)));
        List<Call> rebuilt = behind(behind(FULL, backs(14)), MANY.toArray(new Call[0]));
        sameState("3: another text instead", MANY, rebuilt);
    }

    /** "SIGN i of a SENTENCE (that was begun, too), from 0 on; NONE if there is none such." */
    private static void promise4() {
        int[][] small = {s(0, GIVES, 10, 2, END), s(HE, GOES, 20, END), s(1, GOES, 21, END), s(1, DROPS, 11, END)};
        for (int sentence = 0; sentence < small.length; sentence++) {
            toldAs(BEGUN, sentence, small[sentence]);
        }
        toldAs(BEGUN, 4, s(HE, GIVES, 12));
        toldAs(SMALL, 4, s());
        toldAs(behind(BEGUN, signs(4)), 4, s(HE, GIVES, 12, 4));
        toldAs(behind(BEGUN, sentence(4)), 4, s(HE, GIVES, 12, 4, END));
        for (int sentence : outside(0, 4)) {
            none("4: no such sentence", BEGUN, Name.TOLD, sentence, 0);
        }
        for (int sentence : outside(0, 13)) {
            none("4: no such sentence of 14", FULL, Name.TOLD, sentence, 0);
        }
        for (int sentence : outside(0, -1)) {
            none("4: no sentence at all", EMPTY, Name.TOLD, sentence, 0);
        }
        due("4: sentence 13", FULL, 5, Name.TOLD, 13, 0);
        due("4: the end of sentence 13", FULL, END, Name.TOLD, 13, 3);
        // Five times these numbers is 1 and 3 in an int that wraps around.
        none("4: a number that wraps around", SMALL, Name.TOLD, -858993459, 0);
        none("4: a number that wraps around", SMALL, Name.TOLD, 1717986919, 0);
        none("4: a refused sentence", behind(SMALL, sentence(0, TAKES, 10)), Name.TOLD, 4, 0);
        List<Call> shorter = behind(behind(text(s(0, GIVES, 10, 2)), backs(1)), sentence(0, GOES, 20));
        none("4: no sign of what stood there", shorter, Name.TOLD, 0, 4);
    }

    private static void toldAs(List<Call> row, int sentence, int[] signs) {
        for (int i = 0; i < signs.length; i++) {
            due("4: sign", row, signs[i], Name.TOLD, sentence, i);
        }
        for (int i : outside(0, signs.length - 1)) {
            none("4: no such sign", row, Name.TOLD, sentence, i);
        }
    }

    /** "How many READINGS the first k SENTENCES have; NONE if there are not so many." */
    private static void promise5() {
        int[] dueNumbers = {1, 1, 2, 2, 2};
        for (int k = 0; k < dueNumbers.length; k++) {
            due("5: the first k", SMALL, dueNumbers[k], Name.READINGS, k);
            due("5: the first k, one begun", BEGUN, dueNumbers[k], Name.READINGS, k);
        }
        for (int k = 0; k <= 7; k++) {
            due("5: up to 64", MANY, k == 0 ? 1 : 1 << (k - 1), Name.READINGS, k);
        }
        List<Call> fewer = text(s(0, GIVES, 10, 2), s(HE, TAKES, 11), s(0, TAKES, 11));
        due("5: the first two have more than all", fewer, 2, Name.READINGS, 2);
        due("5: all have fewer", fewer, 1, Name.READINGS, 3);
        outsidePrefixes("5: not so many", Name.READINGS);
    }

    private static void outsidePrefixes(String what, Name name, int... ahead) {
        int[] sizes = {0, 4, 4, 14};
        List<List<Call>> rows = List.of(EMPTY, SMALL, BEGUN, FULL);
        for (int i = 0; i < sizes.length; i++) {
            for (int k : outside(0, sizes[i])) {
                none(what, rows.get(i), name, with(ahead, k));
            }
        }
        none(what, behind(SMALL, sentence(0, TAKES, 10)), name, with(ahead, 5));
        none(what, behind(SMALL, backs(1)), name, with(ahead, 4));
    }

    private static int[] with(int[] ahead, int last) {
        int[] all = Arrays.copyOf(ahead, ahead.length + 1);
        all[ahead.length] = last;
        return all;
    }

    private static void promise6() {
        int[] subjects = {0, 0, 1, 1};
        int[] others = {0, 2, 1, 1};
        for (int sentence = 0; sentence < 4; sentence++) {
            due("6: in reading 0", SMALL, subjects[sentence], Name.MEANS, sentence, 0, 0);
            due("6: in reading 1", SMALL, others[sentence], Name.MEANS, sentence, 0, 1);
            due("6: the receiver", SMALL, sentence == 0 ? 2 : NONE, Name.MEANS, sentence, 1, 1);
            for (int which : outside(0, 1)) {
                none("6: neither subject nor receiver", SMALL, Name.MEANS, sentence, which, 0);
            }
            for (int r : outside(0, 1)) {
                none("6: no such reading", SMALL, Name.MEANS, sentence, 0, r);
            }
        }
        for (int sentence = 1; sentence < 4; sentence++) {
            none("6: goes and drops have no receiver", SMALL, Name.MEANS, sentence, 1, 0);
        }
        none("6: takes has no receiver", FULL, Name.MEANS, 13, 1, 0);
        int[] sizes = {0, 4, 4, 14};
        List<List<Call>> rows = List.of(EMPTY, SMALL, BEGUN, FULL);
        for (int i = 0; i < sizes.length; i++) {
            for (int sentence : outside(0, sizes[i] - 1)) {
                none("6: no such sentence", rows.get(i), Name.MEANS, sentence, 0, 0);
                none("6: no such sentence", rows.get(i), Name.MEANS, sentence, 1, 0);
            }
        }
        sixtyFourReadings();
    }

    /** "by the least PERSONS, from the first he or she on": the first he turns last. */
    private static void sixtyFourReadings() {
        for (int r = 0; r < 64; r++) {
            for (int sentence = 1; sentence < 7; sentence++) {
                int due = (r >> (6 - sentence) & 1) == 0 ? 0 : 2;
                due("6: order of readings", MANY, due, Name.MEANS, sentence, 0, r);
            }
        }
        for (int r : outside(0, 63)) {
            none("6: no such reading of 64", MANY, Name.MEANS, 1, 0, r);
            none("6: also where one is named", MANY, Name.MEANS, 0, 0, r);
        }
        none("6: readings that were refused", behind(MANY, sentence(HE, TAKES, 17)), Name.MEANS, 1, 0, 64);
        none("6: readings that were taken back", behind(MANY, backs(1)), Name.MEANS, 1, 0, 32);
        List<Call> women = text(s(7, GIVES, 10, 3), s(SHE, GIVES, 11, SHE));
        due("6: the least woman first", women, 3, Name.MEANS, 1, 0, 0);
        due("6: to the other", women, 7, Name.MEANS, 1, 1, 0);
        due("6: then the other first", women, 7, Name.MEANS, 1, 0, 1);
        due("6: to the least", women, 3, Name.MEANS, 1, 1, 1);
    }

    /** "NONE if there is no such KIND, PERSON, THING": of each call that is asked with KIND and about. */
    private static void outsideQuestions(String what, Name name, int... behindThem) {
        for (List<Call> row : List.of(EMPTY, BEGUN, FULL)) {
            for (int kind : outside(0, 3)) {
                none(what, row, name, question(kind, 0, behindThem));
                none(what, row, name, question(kind, -1, behindThem));
            }
            for (int kind = 0; kind < 4; kind++) {
                for (int about : outside(0, abouts(kind) - 1)) {
                    none(what, row, name, question(kind, about, behindThem));
                }
            }
        }
    }

    private static int[] question(int kind, int about, int[] behindThem) {
        int[] given = new int[2 + behindThem.length];
        given[0] = kind;
        given[1] = about;
        System.arraycopy(behindThem, 0, given, 2, behindThem.length);
        return given;
    }

    private static void promise7() {
        due("7: person 7", FULL, 27, Name.ANSWER, 0, 7, 14);
        due("7: thing 19", behind(SMALL, sentence(1, TAKES, 19)), 21, Name.ANSWER, 1, 9, 5);
        due("7: who has thing 19", behind(SMALL, sentence(1, TAKES, 19)), 1, Name.ANSWER, 2, 9, 5);
        due("7: it lies", SMALL, LIES, Name.ANSWER, 2, 1, 4);
        due("7: none tells", SMALL, NOT_TOLD, Name.ANSWER, 2, 2, 4);
        due("7: some don't tell", SMALL, IN_DOUBT, Name.ANSWER, 0, 0, 4);
        due("7: ahead of it none told", SMALL, NOT_TOLD, Name.ANSWER, 0, 0, 1);
        due("7: where one is who is told somewhere in some readings", SMALL, IN_DOUBT, Name.ANSWER, 1, 0, 4);
        List<Call> alike = text(s(0, GIVES, 10, 2), s(HE, TAKES, 11), s(0, GOES, 20), s(2, GOES, 20));
        due("7: two readings tell alike", alike, 20, Name.ANSWER, 1, 1, 4);
        due("7: and not alike who", alike, IN_DOUBT, Name.ANSWER, 2, 1, 4);
        due("7: nor how many", alike, IN_DOUBT, Name.ANSWER, 3, 0, 4);
        due("7: not alike where", behind(alike, sentence(0, GOES, 21)), IN_DOUBT, Name.ANSWER, 1, 1, 5);
        List<Call> apart = text(s(0, GOES, 20), s(2, GOES, 20), s(0, GIVES, 11, 2), s(HE, GOES, 21));
        due("7: each reading tells another place", apart, IN_DOUBT, Name.ANSWER, 0, 0, 4);
        due("7: none of the eight has any", FULL, 0, Name.ANSWER, 3, 7, 14);
        List<Call> ten = text(s(0, TAKES, 10), s(0, TAKES, 11), s(0, TAKES, 12), s(0, TAKES, 13), s(0, TAKES, 14),
                s(0, TAKES, 15), s(0, TAKES, 16), s(0, TAKES, 17), s(0, TAKES, 18), s(0, TAKES, 19));
        due("7: all ten", ten, 10, Name.ANSWER, 3, 0, 10);
        due("8: all ten", ten, 10, Name.LEVEL, 3, 0, 10);
        due("9: all ten", ten, bits(0, 1, 2, 3, 4, 5, 6, 7, 8, 9), Name.GROUNDS, 3, 0, 0);
        due("10: all ten", ten, 0, Name.JUDGE, 3, 0, 10);
        due("10: there were nine", ten, 2, Name.JUDGE, 3, 0, 9);
        outsideQuestions("7: no such question", Name.ANSWER, 0);
        for (int kind = 0; kind < 4; kind++) {
            outsidePrefixes("7: no such k", Name.ANSWER, kind, 0);
        }
    }

    private static void promise8() {
        due("8: not told", SMALL, 0, Name.LEVEL, 0, 3, 4);
        due("8: none had", SMALL, 0, Name.LEVEL, 3, 0, 4);
        due("8: in doubt, the most in a reading", SMALL, 1, Name.LEVEL, 0, 0, 4);
        due("8: in doubt, the most in a reading", SMALL, 2, Name.LEVEL, 1, 0, 4);
        due("8: it lies there", SMALL, 2, Name.LEVEL, 1, 1, 4);
        due("8: it lies", SMALL, 1, Name.LEVEL, 2, 1, 4);
        List<Call> uneven = text(s(0, GIVES, 10, 2), s(0, GOES, 20), s(0, GIVES, 11, 4), s(2, GOES, 20),
                s(2, GIVES, 12, 4), s(HE, TAKES, 13));
        due("8: one of the two readings has more", uneven, 3, Name.LEVEL, 1, 3, 6);
        due("9: in the one", uneven, bits(3, 5), Name.GROUNDS, 1, 3, 0);
        due("9: in the other", uneven, bits(1, 2, 5), Name.GROUNDS, 1, 3, 1);
        due("11: what is in both", uneven, bits(5), Name.ASKS, 1, 3);
        List<Call> chain = text(chain());
        taken("8: a chain of 14", chain);
        due("8: all 14 sentences", chain, 14, Name.LEVEL, 0, 7, 14);
        due("8: 13 of them", chain, 13, Name.LEVEL, 0, 5, 14);
        due("9: all 14 sentences", chain, (1 << 14) - 1, Name.GROUNDS, 0, 7, 0);
        due("11: all 14 sentences", chain, (1 << 14) - 1, Name.ASKS, 0, 7);
        due("12: one question for all 14", chain, 1, Name.FEWEST);
        outsideQuestions("8: no such question", Name.LEVEL, 0);
        for (int kind = 0; kind < 4; kind++) {
            outsidePrefixes("8: no such k", Name.LEVEL, kind, 0);
        }
    }

    /** Each place follows from the one ahead of it, by drops and takes, then by gives. */
    private static int[][] chain() {
        return new int[][] {
            s(0, GOES, 20), s(0, DROPS, 10), s(1, TAKES, 10), s(1, DROPS, 11), s(2, TAKES, 11), s(2, DROPS, 12),
            s(3, TAKES, 12), s(3, DROPS, 13), s(4, TAKES, 13), s(4, DROPS, 14), s(6, TAKES, 14), s(6, DROPS, 15),
            s(5, TAKES, 15), s(5, GIVES, 16, 7)
        };
    }

    private static void promise9() {
        due("9: not told", SMALL, 0, Name.GROUNDS, 0, 3, 0);
        due("9: not told in this reading", SMALL, 0, Name.GROUNDS, 0, 0, 1);
        due("9: told in the other", SMALL, bits(1), Name.GROUNDS, 0, 0, 0);
        due("9: none had", SMALL, 0, Name.GROUNDS, 3, 0, 0);
        due("9: it lies there", SMALL, bits(2, 3), Name.GROUNDS, 1, 1, 1);
        due("9: it lies, the drops alone", SMALL, bits(3), Name.GROUNDS, 2, 1, 1);
        due("9: to go where one is, is new", text(s(0, GOES, 20), s(0, GOES, 20)), bits(1), Name.GROUNDS, 0, 0, 0);
        due("9: reading 63", MANY, bits(0, 1, 2, 3, 4, 5, 6), Name.GROUNDS, 3, 2, 63);
        due("9: reading 0", MANY, bits(0), Name.GROUNDS, 3, 2, 0);
        outsideQuestions("9: no such question", Name.GROUNDS, 0);
        int[] sizes = {1, 2, 2, 4, 64};
        List<List<Call>> rows = List.of(EMPTY, SMALL, BEGUN, FULL, MANY);
        for (int i = 0; i < sizes.length; i++) {
            for (int r : outside(0, sizes[i] - 1)) {
                none("9: no such reading", rows.get(i), Name.GROUNDS, 3, 0, r);
            }
        }
        for (int kind = 0; kind < 4; kind++) {
            none("9: no such reading", SMALL, Name.GROUNDS, kind, 0, 2);
        }
        none("9: readings that were taken back", behind(MANY, backs(1)), Name.GROUNDS, 3, 0, 32);
    }

    private static void promise10() {
        for (int said : outside(20, 27)) {
            due("10: no place", FULL, 1, Name.JUDGE, 0, 0, said);
            due("10: no place", FULL, 1, Name.JUDGE, 1, 0, said);
        }
        for (int said : outside(0, 9)) {
            due("10: no person and not 9", FULL, 1, Name.JUDGE, 2, 0, said);
        }
        due("10: 8 is no person", FULL, 1, Name.JUDGE, 2, 0, 8);
        for (int said : outside(0, 10)) {
            due("10: no number", FULL, 1, Name.JUDGE, 3, 5, said);
        }
        int[] dueOfPlaces = {2, 3, 0, 3, 3, 3, 3, 3};
        for (int i = 0; i < 8; i++) {
            due("10: a place", FULL, dueOfPlaces[i], Name.JUDGE, 0, 0, 20 + i);
        }
        int[] dueOfThing = {3, 3, 0, 3, 3, 3, 3, 3};
        for (int i = 0; i < 8; i++) {
            due("10: a place of a thing", FULL, dueOfThing[i], Name.JUDGE, 1, 0, 20 + i);
            due("10: a person", FULL, i == 2 ? 0 : 3, Name.JUDGE, 2, 0, i);
        }
        due("10: 9, but it never lay", FULL, 3, Name.JUDGE, 2, 0, 9);
        due("10: 9 is the answer", FULL, 0, Name.JUDGE, 2, 3, 9);
        for (int said = 0; said <= 10; said++) {
            due("10: a number", FULL, said == 0 ? 2 : said == 1 ? 0 : 3, Name.JUDGE, 3, 5, said);
        }
        judgedByEarlierTexts();
        noAnswer("10: no answer", Name.JUDGE, 20);
        noAnswer("10: no answer, and -2 is said", Name.JUDGE, -2);
        noAnswer("10: no answer, and -3 is said", Name.JUDGE, -3);
        outsideQuestions("10: no such question", Name.JUDGE, 0);
    }

    /** "2 it was the ANSWER behind fewer SENTENCES (of the text that ends there)". */
    private static void judgedByEarlierTexts() {
        List<Call> lay = text(s(0, DROPS, 10), s(1, TAKES, 10));
        due("10: it lay", lay, 2, Name.JUDGE, 2, 0, 9);
        due("10: of the empty text", text(s(0, TAKES, 10)), 2, Name.JUDGE, 3, 0, 0);
        due("10: the same again is the answer", text(s(0, GOES, 20), s(0, GOES, 21), s(0, GOES, 20)), 0,
                Name.JUDGE, 0, 0, 20);
        List<Call> doubted = text(s(0, GIVES, 10, 2), s(HE, TAKES, 11), s(2, DROPS, 11));
        due("10: in doubt by the text that ended there", doubted, 3, Name.JUDGE, 2, 1, 2);
        List<Call> takenBack = behind(behind(text(s(0, GOES, 20)), sentence(0, GOES, 21)), backs(1));
        due("10: what was taken back was no answer", takenBack, 3, Name.JUDGE, 0, 0, 21);
        List<Call> instead = behind(takenBack, sentence(0, GOES, 22));
        due("10: nor behind another one", instead, 3, Name.JUDGE, 0, 0, 21);
        due("10: what was not told was no answer", text(s(0, GOES, 20)), 1, Name.JUDGE, 0, 0, NOT_TOLD);
        due("10: nor what was in doubt", behind(doubted, sentence(2, TAKES, 11)), 1, Name.JUDGE, 2, 1, IN_DOUBT);
    }

    /** NOT TOLD and in DOUBT, of the KINDS that know them. */
    private static void noAnswer(String what, Name name, int last) {
        for (int kind = 0; kind < 3; kind++) {
            none(what, EMPTY, name, kind, 0, last);
            none(what, SMALL, name, kind, 3, last);
        }
        none(what, FULL, name, 1, 9, last);
        none(what, FULL, name, 2, 9, last);
        none(what, SMALL, name, 0, 0, last);
        none(what, SMALL, name, 1, 0, last);
        none(what, FULL, name, 2, 1, last);
        none(what, FULL, name, 3, 0, last);
    }

    private static void promise11() {
        due("11: it lies there", SMALL, bits(2, 3), Name.ASKS, 1, 1);
        due("11: not told", SMALL, 0, Name.ASKS, 0, 3);
        due("11: in doubt, though each reading has grounds", FULL, 0, Name.ASKS, 2, 1);
        due("11: in doubt", SMALL, 0, Name.ASKS, 0, 0);
        List<Call> doubted = text(s(2, GOES, 20), s(4, GOES, 20), s(2, GIVES, 10, 4), s(HE, GOES, 21), s(HE, DROPS, 11),
                s(0, TAKES, 11));
        taken("11: where 0 takes 11", doubted);
        due("11: where 0 takes 11", doubted, IN_DOUBT, Name.ANSWER, 0, 0, 6);
        due("11: in doubt, though sentences 4 and 5 are grounds in all readings", doubted, 0, Name.ASKS, 0, 0);
        due("11: the answer is person 0", doubted, bits(5), Name.ASKS, 2, 1);
        due("11: an answer of 0 things", SMALL, 0, Name.ASKS, 3, 0);
        due("11: the begun one is not asked for", BEGUN, bits(0), Name.ASKS, 2, 0);
        due("11: sentence 13", FULL, bits(13), Name.ASKS, 2, 4);
        outsideQuestions("11: no such question", Name.ASKS);
        sameState("11: 0 changes nothing", SMALL, behind(SMALL, call(Name.ASKS, 0, 0), call(Name.ASKS, 0, 3)));
    }

    private static void promise12() {
        due("12: nothing to ask for", EMPTY, 0, Name.FEWEST);
        due("12: nothing, one begun", behind(EMPTY, signs(0, GOES, 20)), 0, Name.FEWEST);
        due("12: nothing again", behind(SMALL, backs(4)), 0, Name.FEWEST);
        due("12: one", text(s(0, GOES, 20)), 1, Name.FEWEST);
        due("12: what nothing asks for isn't counted", text(s(0, TAKES, 10), s(0, TAKES, 10)), 1, Name.FEWEST);
        due("12: nor what is in doubt", SMALL, 2, Name.FEWEST);
        List<Call> many = text(s(0, GOES, 20), s(1, GOES, 21), s(2, GOES, 22), s(3, GOES, 23), s(4, GOES, 24),
                s(5, GOES, 25), s(6, GOES, 26), s(7, GOES, 27), s(0, DROPS, 10), s(1, DROPS, 11), s(2, DROPS, 12),
                s(3, DROPS, 13), s(4, DROPS, 14), s(5, DROPS, 15));
        taken("12: fourteen", many);
        due("12: where each thing lies, and two persons", many, 8, Name.FEWEST);
        List<Call> most = text(s(0, DROPS, 10), s(0, DROPS, 11), s(0, DROPS, 12), s(0, DROPS, 13), s(0, DROPS, 14),
                s(0, DROPS, 15), s(0, DROPS, 16), s(0, DROPS, 17), s(0, DROPS, 18), s(0, DROPS, 19), s(0, GOES, 20),
                s(1, GOES, 20), s(2, GOES, 20), s(3, GOES, 20));
        taken("12: fourteen, each alone", most);
        due("12: a question for each", most, 14, Name.FEWEST);
        sameState("12: to ask changes nothing", FULL, behind(FULL, call(Name.FEWEST), call(Name.FEWEST)));
        fewestOfAnotherText();
    }

    /** What an earlier text was asked for must not help to ask for this one. */
    private static void fewestOfAnotherText() {
        List<Call> three = text(s(5, GOES, 20), s(5, DROPS, 10), s(2, TAKES, 10), s(0, GOES, 21), s(1, GOES, 22));
        due("12: 0, 1, and where 2 is", three, 3, Name.FEWEST);
        List<Call> nothing = behind(behind(three, call(Name.FEWEST)), backs(5));
        sameState("12: nothing, behind another text", EMPTY, nothing);
        List<Call> two = text(s(0, GOES, 20), s(1, GOES, 21));
        sameState("12: two, behind another text", two, behind(nothing, two.toArray(new Call[0])));
        due("12: two, behind another text", behind(nothing, two.toArray(new Call[0])), 2, Name.FEWEST);
        List<Call> four = text(s(5, GOES, 20), s(5, GIVES, 10, 3), s(0, GOES, 21), s(1, GOES, 22), s(2, GOES, 23));
        due("12: 0, 1, 2 and where 3 is", four, 4, Name.FEWEST);
        List<Call> again = behind(behind(four, call(Name.FEWEST)), backs(5));
        Call[] instead = joined(s(1, GOES, 21), s(2, GOES, 22), s(0, GOES, 20), s(0, TAKES, 10));
        due("12: three, behind another text", behind(again, instead), 3, Name.FEWEST);
    }

    private static void promise13() {
        for (int i = 0; i < 8; i++) {
            due("13: each person, since it lies", FULL, i, Name.WRONG, 2, 3, i);
        }
        int[] places = {20, 22, 23, 24, 25, 26, 27};
        int[] persons = {0, 1, 3, 4, 5, 6, 7};
        for (int i = 0; i < 7; i++) {
            due("13: each place but the right one", FULL, places[i], Name.WRONG, 0, 1, i);
            due("13: also of a thing", FULL, places[i], Name.WRONG, 1, 3, i);
            due("13: each person but the right one", FULL, persons[i], Name.WRONG, 2, 0, i);
        }
        for (int i : outside(0, 7)) {
            none("13: no such choice of eight", FULL, Name.WRONG, 2, 3, i);
        }
        for (int i : outside(0, 6)) {
            none("13: no such choice of seven", FULL, Name.WRONG, 0, 1, i);
            none("13: no such choice of seven", FULL, Name.WRONG, 1, 3, i);
            none("13: no such choice of seven", FULL, Name.WRONG, 2, 0, i);
        }
        for (int about = 0; about < 8; about++) {
            none("13: not for kind 3", FULL, Name.WRONG, 3, about, 0);
        }
        noAnswer("13: no answer", Name.WRONG, 0);
        outsideQuestions("13: no such question", Name.WRONG, 0);
        namedAlone();
    }

    /** "NAMED in the text": not by he or she, and not in what was refused, begun or taken back. */
    private static void namedAlone() {
        List<Call> one = text(s(0, GOES, 20), s(HE, TAKES, 10));
        none("13: no other place", one, Name.WRONG, 0, 0, 0);
        none("13: no other place of the thing", one, Name.WRONG, 1, 0, 0);
        none("13: no other person", one, Name.WRONG, 2, 0, 0);
        none("13: a begun person", behind(one, signs(4, TAKES, 11)), Name.WRONG, 2, 0, 0);
        none("13: a begun place", behind(one, signs(4, GOES, 25)), Name.WRONG, 0, 0, 0);
        none("13: a refused person", behind(one, sentence(4, TAKES, 10)), Name.WRONG, 2, 0, 0);
        none("13: a refused place", behind(one, sentence(SHE, GOES, 25)), Name.WRONG, 0, 0, 0);
        List<Call> takenBack = behind(behind(one, sentence(4, GOES, 25)), backs(1));
        none("13: a person taken back", takenBack, Name.WRONG, 2, 0, 0);
        none("13: a place taken back", takenBack, Name.WRONG, 0, 0, 0);
        List<Call> others = text(s(3, GOES, 25), s(3, GIVES, 11, 5), s(5, GOES, 22));
        due("13: place 20 isn't named", others, 25, Name.WRONG, 0, 5, 0);
        none("13: one other place", others, Name.WRONG, 0, 5, 1);
        due("13: person 0 isn't named", behind(others, sentence(5, TAKES, 12)), 3, Name.WRONG, 2, 2, 0);
        none("13: one other person", behind(others, sentence(5, TAKES, 12)), Name.WRONG, 2, 2, 1);
        due("13: named in the first sentence alone", text(s(4, TAKES, 10), s(3, TAKES, 11)), 4, Name.WRONG, 2, 1, 0);
        List<Call> receiver = behind(one, sentence(3, GIVES, 11, 5));
        due("13: a giver", receiver, 3, Name.WRONG, 2, 0, 0);
        due("13: a receiver", receiver, 5, Name.WRONG, 2, 0, 1);
        none("13: and no more", receiver, Name.WRONG, 2, 0, 2);
    }

    private static void promise14() {
        int[] small = {4, 0, 2, 12, 3};
        int[] begun = {4, 3, 2, 12, 3};
        int[] many = {7, 0, 64, 7, 8};
        for (int what = 0; what < 5; what++) {
            due("14: of a small text", SMALL, small[what], Name.COUNT, what);
            due("14: with one begun", BEGUN, begun[what], Name.COUNT, what);
            due("14: of 64 readings", MANY, many[what], Name.COUNT, what);
        }
        for (int length = 0; length <= 4; length++) {
            List<Call> row = behind(SMALL, signs(Arrays.copyOf(s(1, GIVES, 12, 3), length)));
            due("14: signs begun", row, length, Name.COUNT, 1);
        }
        List<Call> first = text(s(0, GOES, 20));
        due("14: where 0 is, and 8 numbers", first, 9, Name.COUNT, 3);
        due("14: nothing in doubt", first, 0, Name.COUNT, 4);
        due("14: none begun behind an end", behind(SMALL, sentence(1, GIVES, 12, 3)), 0, Name.COUNT, 1);
        due("14: 14 sentences", FULL, 14, Name.COUNT, 0);
        for (List<Call> row : List.of(EMPTY, BEGUN, FULL)) {
            for (int what : outside(0, 4)) {
                none("14: others", row, Name.COUNT, what);
            }
        }
    }

    /** The document's 512 calls: refused ones, and sentences made and taken back, wear nothing out. */
    private static void callsInOneObject() {
        List<Call> refused = new ArrayList<>();
        for (int i = 0; i < 100; i++) {
            refused.addAll(List.of(call(Name.SIGN, END), call(Name.BACK), call(Name.COUNT, 5)));
        }
        sameState("512 calls: refused", EMPTY, refused);
        List<Call> back = new ArrayList<>();
        for (int i = 0; i < 50; i++) {
            back.addAll(Arrays.asList(sentence(0, GIVES, 10 + i % 10, 2)));
            back.addAll(Arrays.asList(backs(1)));
        }
        sameState("512 calls: taken back", EMPTY, back);
        TextAsker x = replay(back);
        for (int i = back.size(); i < MOST_CALLS - 5; i++) {
            x.fewest();
        }
        for (Call sign : sentence(0, GOES, 20)) {
            same("512 calls: a sentence by the 511th", sign.on(x), 1);
        }
        same("512 calls: the 512th", x.answer(0, 0, 1), 20);
        allArgumentsFar();
    }

    /** Every argument far outside or just at an edge at once: the machine itself must not throw. */
    private static void allArgumentsFar() {
        int[] numbers = {Integer.MIN_VALUE, -1, 0, 3, 8, 14, 64, Integer.MAX_VALUE};
        for (List<Call> row : List.of(EMPTY, BEGUN, FULL, MANY)) {
            for (Name name : Name.values()) {
                if (name.parameters < 2) {
                    continue;
                }
                List<Call> longer = new ArrayList<>(row);
                for (int i = 0; i < 512; i++) {
                    longer.add(call(name, numbers[i / 64], numbers[i / 8 % 8], numbers[i % 8]));
                    if (i % 256 == 255) {
                        sameState("far arguments change nothing", row, longer);
                        longer = new ArrayList<>(row);
                    }
                }
            }
        }
    }
}
