import java.util.ArrayList;
import java.util.Arrays;
import java.util.HashSet;
import java.util.LinkedHashMap;
import java.util.List;
import java.util.Map;
import java.util.Set;
import java.util.TreeSet;

/**
 * Long runs of calls, each answer against a second model that keeps nothing but the signs and works out all else anew
 * from the document's words. The numbers come from a fixed row, so that every run is the same.
 */
public final class ModelTest {
    private static final int RUNS = 2000;
    /** The document's limit for one object, and how many of them the last questions of a run take. */
    private static final int CALLS = 512;
    private static final int LAST_QUESTIONS = 36 * 6 + 5 + 1;
    private static final int LONGEST_SENTENCE = 5;
    private static final int[] OTHER_NUMBERS = {-3, -2, -1, 8, 9, 10, 28, 50, Integer.MAX_VALUE, Integer.MIN_VALUE};

    private static int failures = 0;
    private static long row = 20261116L;

    public static void main(String[] args) {
        sixtyFiveReadings();
        int sentences = 0;
        int readings = 0;
        int refused = 0;
        for (int run = 0; run < RUNS && failures < 20; run++) {
            Run one = new Run(run);
            one.go();
            sentences = Math.max(sentences, one.model.text.size());
            readings = Math.max(readings, one.mostReadings);
            refused += one.refused;
        }
        if (sentences != 14 || readings != 64 || refused < 1000) {
            failures++;
            System.out.println("the runs are too tame: " + sentences + " " + readings + " " + refused);
        }
        System.out.println(failures == 0 ? "the model agrees" : failures + " answers differ from the model");
        if (failures != 0) {
            System.exit(1);
        }
    }

    /** Just one reading too many: the model counts them, the object must refuse the last sentence. */
    private static void sixtyFiveReadings() {
        int[] signs = {0, 33, 10, 2, 50, 40, 30, 20, 50, 40, 33, 13, 1, 50, 40, 30, 21, 50, 40, 32, 11, 50,
            40, 33, 10, 1, 50, 40, 30, 20, 50, 40, 30, 21, 50, 40, 31, 11};
        Run run = new Run(-1);
        for (int sign : signs) {
            run.same("sign(" + sign + ")", run.asker.sign(sign) ? 1 : 0, run.model.sign(sign) ? 1 : 0);
        }
        run.same("sentences", run.asker.count(0), 8);
        run.same("sign(50)", run.asker.sign(50) ? 1 : 0, 0);
        run.model.begun = new ArrayList<>();
        run.askAll();
        run.model.text.add(List.of(40, 31, 11, 50));
        run.same("readings, if there could be so many", run.model.readingsOf(9).size(), 65);
    }

    private static int below(int bound) {
        row = row * 6364136223846793005L + 1442695040888963407L;
        return (int) ((row >>> 33) % bound);
    }

    /** One object and one model, asked alike. Few persons, things and places make sentences that touch each other. */
    private static final class Run {
        final TextAsker asker = new TextAsker();
        final Model model = new Model();
        final List<String> calls = new ArrayList<>();
        final int number;
        final int persons;
        final int things;
        final int places;
        final int pronouns;
        int mostReadings = 1;
        int refused = 0;

        Run(int number) {
            this.number = number;
            persons = 2 + below(7);
            things = 1 + below(10);
            places = 1 + below(8);
            pronouns = below(80);
        }

        void go() {
            while (calls.size() <= CALLS - LAST_QUESTIONS - LONGEST_SENTENCE && failures < 20) {
                int pick = below(100);
                if (pick < 55) {
                    addSentence();
                } else if (pick < 60) {
                    same("back()", asker.back() ? 1 : 0, model.back() ? 1 : 0);
                } else if (pick < 64) {
                    int sign = below(60) - 5;
                    same("sign(" + sign + ")", asker.sign(sign) ? 1 : 0, model.sign(sign) ? 1 : 0);
                } else {
                    ask();
                }
            }
            mostReadings = Math.max(mostReadings, model.readingsOf(model.text.size()).size());
            askAll();
            if (calls.size() > CALLS) {
                failures++;
                System.out.println("run " + number + " has " + calls.size() + " calls");
            }
        }

        void addSentence() {
            if (model.text.size() == 14 && below(4) != 0) {
                ask();
                return;
            }
            List<Integer> signs = new ArrayList<>();
            int verb = 30 + below(4);
            signs.add(who());
            signs.add(verb);
            signs.add(verb == 30 ? 20 + below(places) : 10 + below(things));
            if (verb == 33) {
                signs.add(who());
            }
            signs.add(50);
            for (int sign : signs) {
                boolean due = model.sign(sign);
                refused += due ? 0 : 1;
                same("sign(" + sign + ")", asker.sign(sign) ? 1 : 0, due ? 1 : 0);
            }
        }

        int who() {
            return below(100) < pronouns ? 40 + below(2) : below(persons);
        }

        int number(int bound) {
            return below(12) == 0 ? OTHER_NUMBERS[below(OTHER_NUMBERS.length)] : below(bound);
        }

        void ask() {
            int kind = number(4);
            int about = number(kind == 1 || kind == 2 ? 10 : 8);
            int k = number(model.text.size() + 1);
            int r = number(model.readingsOf(model.text.size()).size());
            switch (below(11)) {
                case 0 -> told(number(15), number(6));
                case 1 -> readings(k);
                case 2 -> means(number(14), number(2), r);
                case 3 -> answer(kind, about, k);
                case 4 -> level(kind, about, k);
                case 5 -> grounds(kind, about, r);
                case 6 -> judge(kind, about, number(30));
                case 7 -> asks(kind, about);
                case 8 -> same("fewest()", asker.fewest(), model.fewest());
                case 9 -> wrong(kind, about, number(8));
                default -> count(number(6));
            }
        }

        void askAll() {
            int whole = model.text.size();
            for (int kind = 0; kind < 4; kind++) {
                for (int about = 0; about < (kind == 1 || kind == 2 ? 10 : 8); about++) {
                    answer(kind, about, whole);
                    level(kind, about, whole);
                    asks(kind, about);
                    grounds(kind, about, below(model.readingsOf(whole).size()));
                    judge(kind, about, below(30));
                    wrong(kind, about, below(3));
                }
            }
            for (int what = 0; what < 5; what++) {
                count(what);
            }
            same("fewest()", asker.fewest(), model.fewest());
        }

        void told(int sentence, int i) {
            same("told(" + sentence + ", " + i + ")", asker.told(sentence, i), model.told(sentence, i));
        }

        void readings(int k) {
            same("readings(" + k + ")", asker.readings(k), model.readings(k));
        }

        void means(int sentence, int which, int r) {
            same("means(" + sentence + ", " + which + ", " + r + ")", asker.means(sentence, which, r),
                    model.means(sentence, which, r));
        }

        void answer(int kind, int about, int k) {
            same("answer(" + kind + ", " + about + ", " + k + ")", asker.answer(kind, about, k),
                    model.answer(kind, about, k));
        }

        void level(int kind, int about, int k) {
            same("level(" + kind + ", " + about + ", " + k + ")", asker.level(kind, about, k),
                    model.level(kind, about, k));
        }

        void grounds(int kind, int about, int r) {
            same("grounds(" + kind + ", " + about + ", " + r + ")", asker.grounds(kind, about, r),
                    model.grounds(kind, about, r));
        }

        void judge(int kind, int about, int said) {
            same("judge(" + kind + ", " + about + ", " + said + ")", asker.judge(kind, about, said),
                    model.judge(kind, about, said));
        }

        void asks(int kind, int about) {
            same("asks(" + kind + ", " + about + ")", asker.asks(kind, about), model.asks(kind, about));
        }

        void wrong(int kind, int about, int i) {
            same("wrong(" + kind + ", " + about + ", " + i + ")", asker.wrong(kind, about, i),
                    model.wrong(kind, about, i));
        }

        void count(int what) {
            same("count(" + what + ")", asker.count(what), model.count(what));
        }

        void same(String call, long got, long due) {
            calls.add(call);
            if (got != due) {
                failures++;
                System.out.println("run " + number + ": " + call + " answered " + got + ", the model says " + due
                        + ", behind " + model.text + " " + model.begun);
            }
        }
    }

    /** What a reading tells of one question: null values are not told. */
    private record Told(Integer value, Set<Integer> grounds) {
    }

    private record Place(int sign, Set<Integer> grounds) {
    }

    /** The holder is null if the thing lies; the spot is null if nobody knows where, or somebody has it. */
    private record Thing(Integer holder, int since, Place spot) {
    }

    /** Places and things as one reading tells them. */
    private static final class Scene {
        final Map<Integer, Place> places = new LinkedHashMap<>();
        final Map<Integer, Thing> things = new LinkedHashMap<>();

        Told told(int kind, int about) {
            Thing thing = kind == 1 || kind == 2 ? things.get(10 + about) : null;
            if (kind == 0) {
                Place place = places.get(about);
                return place == null ? new Told(null, Set.of()) : new Told(place.sign(), place.grounds());
            }
            if (kind == 3) {
                Set<Integer> grounds = new TreeSet<>();
                int had = 0;
                for (Thing one : things.values()) {
                    if (one.holder() != null && one.holder() == about) {
                        had++;
                        grounds.add(one.since());
                    }
                }
                return new Told(had, grounds);
            }
            if (thing == null) {
                return new Told(null, Set.of());
            }
            if (kind == 2) {
                return new Told(thing.holder() == null ? 9 : thing.holder(), Set.of(thing.since()));
            }
            if (thing.holder() == null) {
                return thing.spot() == null ? new Told(null, Set.of())
                        : new Told(thing.spot().sign(), thing.spot().grounds());
            }
            Place place = places.get(thing.holder());
            return place == null ? new Told(null, Set.of()) : new Told(place.sign(), with(place.grounds(), thing.since()));
        }

        static Set<Integer> with(Set<Integer> grounds, int sentence) {
            Set<Integer> more = new TreeSet<>(grounds);
            more.add(sentence);
            return more;
        }

        /** Goes through one sentence; false if it isn't possible. */
        boolean hear(int number, int subject, int verb, int object, int receiver) {
            Thing thing = things.get(object);
            Place here = places.get(subject);
            if (verb == 30) {
                places.put(subject, new Place(object, Set.of(number)));
                return true;
            }
            boolean anothers = thing != null && thing.holder() != null && thing.holder() != subject;
            boolean lies = thing != null && thing.holder() == null;
            if (anothers) {
                return false;
            }
            if (verb == 31) {
                return take(number, subject, object, lies);
            }
            if (lies) {
                return false;
            }
            if (verb == 32) {
                Place spot = here == null ? null : new Place(here.sign(), with(here.grounds(), number));
                things.put(object, new Thing(null, number, spot));
                return true;
            }
            return give(number, subject, object, receiver);
        }

        private boolean take(int number, int subject, int object, boolean lies) {
            Place here = places.get(subject);
            Place spot = lies ? things.get(object).spot() : null;
            if (spot != null && here != null && spot.sign() != here.sign()) {
                return false;
            }
            if (spot != null && here == null) {
                places.put(subject, new Place(spot.sign(), with(spot.grounds(), number)));
            }
            if (lies || things.get(object) == null) {
                things.put(object, new Thing(subject, number, null));
            }
            return true;
        }

        private boolean give(int number, int subject, int object, int receiver) {
            Place here = places.get(subject);
            Place there = places.get(receiver);
            if (subject == receiver || here != null && there != null && here.sign() != there.sign()) {
                return false;
            }
            if (here != null && there == null) {
                places.put(receiver, new Place(here.sign(), with(here.grounds(), number)));
            }
            if (here == null && there != null) {
                places.put(subject, new Place(there.sign(), with(there.grounds(), number)));
            }
            things.put(object, new Thing(receiver, number, null));
            return true;
        }
    }

    /** The document's words over a list of sentences. */
    private static final class Model {
        final List<List<Integer>> text = new ArrayList<>();
        List<Integer> begun = new ArrayList<>();
        /** Readings of each text that was met; only so that the runs don't take minutes. */
        private final Map<List<List<Integer>>, List<int[]>> known = new LinkedHashMap<>();

        boolean sign(int sign) {
            if (text.size() == 14 || !fits(sign)) {
                return false;
            }
            begun.add(sign);
            if (sign != 50) {
                return true;
            }
            text.add(begun);
            begun = new ArrayList<>();
            int readings = readingsOf(text.size()).size();
            if (readings == 0 || readings > 64) {
                text.remove(text.size() - 1);
                return false;
            }
            return true;
        }

        private boolean fits(int sign) {
            StringBuilder form = new StringBuilder();
            for (int one : begun) {
                form.append(letter(one));
            }
            form.append(letter(sign));
            String whole = form.toString();
            for (String sentence : new String[] {"pgl.", "pkt.", "pdt.", "pvtp."}) {
                if (sentence.startsWith(whole)) {
                    return true;
                }
            }
            return false;
        }

        private static char letter(int sign) {
            if (sign >= 0 && sign <= 7 || sign == 40 || sign == 41) {
                return 'p';
            }
            if (sign >= 10 && sign <= 19) {
                return 't';
            }
            if (sign >= 20 && sign <= 27) {
                return 'l';
            }
            return switch (sign) {
                case 30 -> 'g';
                case 31 -> 'k';
                case 32 -> 'd';
                case 33 -> 'v';
                case 50 -> '.';
                default -> '?';
            };
        }

        boolean back() {
            if (!begun.isEmpty()) {
                begun = new ArrayList<>();
                return true;
            }
            return !text.isEmpty() && text.remove(text.size() - 1) != null;
        }

        int told(int sentence, int i) {
            if (sentence < 0 || sentence > text.size()) {
                return -1;
            }
            List<Integer> signs = sentence == text.size() ? begun : text.get(sentence);
            return i >= 0 && i < signs.size() ? signs.get(i) : -1;
        }

        /** Each reading: whom the subject (2s) and the receiver (2s + 1) of each sentence mean; -1 for nobody. */
        List<int[]> readingsOf(int k) {
            List<List<Integer>> part = new ArrayList<>(text.subList(0, k));
            List<int[]> found = known.get(part);
            if (found == null) {
                found = new ArrayList<>();
                collect(part, new int[2 * k], 0, found);
                known.put(part, found);
            }
            return found;
        }

        private void collect(List<List<Integer>> part, int[] meant, int next, List<int[]> found) {
            if (next % 2 == 0 && sceneOf(part, meant, next / 2) == null) {
                return;
            }
            if (next == 2 * part.size()) {
                found.add(meant.clone());
                return;
            }
            List<Integer> sentence = part.get(next / 2);
            if (next % 2 == 1 && sentence.size() == 4) {
                meant[next] = -1;
                collect(part, meant, next + 1, found);
                return;
            }
            for (int person : candidates(part, next / 2, sentence.get(next % 2 == 0 ? 0 : 3))) {
                meant[next] = person;
                collect(part, meant, next + 1, found);
            }
        }

        private Set<Integer> candidates(List<List<Integer>> part, int sentence, int sign) {
            if (sign < 40) {
                return Set.of(sign);
            }
            for (int earlier = sentence - 1; earlier >= 0; earlier--) {
                Set<Integer> named = new TreeSet<>(part.get(earlier).subList(0, 1));
                named.addAll(part.get(earlier).subList(3, 4));
                named.removeIf(person -> person > 7 || person % 2 != sign - 40);
                if (!named.isEmpty()) {
                    return named;
                }
            }
            return Set.of();
        }

        /** Null if one of the first k sentences isn't possible. */
        private Scene sceneOf(List<List<Integer>> part, int[] meant, int k) {
            Scene scene = new Scene();
            for (int s = 0; s < k; s++) {
                if (!scene.hear(s, meant[2 * s], part.get(s).get(1), part.get(s).get(2), meant[2 * s + 1])) {
                    return null;
                }
            }
            return scene;
        }

        int readings(int k) {
            return k < 0 || k > text.size() ? -1 : readingsOf(k).size();
        }

        int means(int sentence, int which, int r) {
            List<int[]> all = readingsOf(text.size());
            if (sentence < 0 || sentence >= text.size() || which < 0 || which > 1 || r < 0 || r >= all.size()) {
                return -1;
            }
            return all.get(r)[2 * sentence + which];
        }

        private boolean isQuestion(int kind, int about) {
            return about >= 0 && (kind == 0 || kind == 3 ? about < 8 : (kind == 1 || kind == 2) && about < 10);
        }

        private List<Told> toldBy(int kind, int about, int k) {
            List<Told> all = new ArrayList<>();
            for (int[] meant : readingsOf(k)) {
                all.add(sceneOf(text, meant, k).told(kind, about));
            }
            return all;
        }

        int answer(int kind, int about, int k) {
            if (!isQuestion(kind, about) || k < 0 || k > text.size()) {
                return -1;
            }
            Set<Integer> values = new HashSet<>();
            for (Told told : toldBy(kind, about, k)) {
                values.add(told.value());
            }
            if (values.size() > 1) {
                return -3;
            }
            Integer only = values.iterator().next();
            return only == null ? -2 : only;
        }

        int level(int kind, int about, int k) {
            if (!isQuestion(kind, about) || k < 0 || k > text.size()) {
                return -1;
            }
            int most = 0;
            for (Told told : toldBy(kind, about, k)) {
                most = Math.max(most, told.grounds().size());
            }
            return most;
        }

        private static int bits(Set<Integer> sentences) {
            int all = 0;
            for (int sentence : sentences) {
                all |= 1 << sentence;
            }
            return all;
        }

        int grounds(int kind, int about, int r) {
            if (!isQuestion(kind, about) || r < 0 || r >= readingsOf(text.size()).size()) {
                return -1;
            }
            return bits(toldBy(kind, about, text.size()).get(r).grounds());
        }

        int judge(int kind, int about, int said) {
            int due = answer(kind, about, text.size());
            if (due < 0) {
                return -1;
            }
            if (said == due) {
                return 0;
            }
            boolean ofKind = switch (kind) {
                case 2 -> said >= 0 && said <= 7 || said == 9;
                case 3 -> said >= 0 && said <= 10;
                default -> said >= 20 && said <= 27;
            };
            if (!ofKind) {
                return 1;
            }
            for (int k = 0; k < text.size(); k++) {
                if (answer(kind, about, k) == said) {
                    return 2;
                }
            }
            return 3;
        }

        int asks(int kind, int about) {
            if (!isQuestion(kind, about)) {
                return -1;
            }
            if (answer(kind, about, text.size()) < 0) {
                return 0;
            }
            int all = -1;
            for (Told told : toldBy(kind, about, text.size())) {
                all &= bits(told.grounds());
            }
            return all;
        }

        /** Fewest questions for every set of sentences, by adding one question at a time. */
        int fewest() {
            int[] need = new int[1 << 14];
            Arrays.fill(need, 99);
            need[0] = 0;
            int union = 0;
            for (int kind = 0; kind < 4; kind++) {
                for (int about = 0; isQuestion(kind, about); about++) {
                    int set = asks(kind, about);
                    union |= set;
                    for (int have = 0; set != 0 && have < need.length; have++) {
                        need[have | set] = Math.min(need[have | set], need[have] + 1);
                    }
                }
            }
            return need[union];
        }

        int wrong(int kind, int about, int i) {
            int due = kind == 3 ? -1 : answer(kind, about, text.size());
            if (due < 0) {
                return -1;
            }
            Set<Integer> choices = new TreeSet<>();
            for (List<Integer> sentence : text) {
                for (int sign : sentence) {
                    if (kind == 2 ? sign <= 7 : sign >= 20 && sign <= 27) {
                        choices.add(sign);
                    }
                }
            }
            choices.remove(due);
            List<Integer> row = new ArrayList<>(choices);
            return i >= 0 && i < row.size() ? row.get(i) : -1;
        }

        int count(int what) {
            if (what == 0) {
                return text.size();
            }
            if (what == 1) {
                return begun.size();
            }
            if (what == 2) {
                return readings(text.size());
            }
            if (what < 0 || what > 4) {
                return -1;
            }
            int found = 0;
            for (int kind = 0; kind < 4; kind++) {
                for (int about = 0; isQuestion(kind, about); about++) {
                    int due = answer(kind, about, text.size());
                    found += what == 3 && due >= 0 || what == 4 && due == -3 ? 1 : 0;
                }
            }
            return found;
        }
    }
}
