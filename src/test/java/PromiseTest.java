/** For each promise of the document: ordinary inputs, the edges that it names, and wrong inputs. */
public final class PromiseTest {
    private static final int GOES = 30;
    private static final int TAKES = 31;
    private static final int DROPS = 32;
    private static final int GIVES = 33;
    private static final int HE = 40;
    private static final int SHE = 41;
    private static final int END = 50;
    private static final int NONE = TextAsker.NONE;
    private static final int NOT_TOLD = -2;
    private static final int IN_DOUBT = -3;

    private static int failures = 0;
    private static int checks = 0;

    public static void main(String[] args) {
        promise1NewObject();
        promise2Grammar();
        promise2Refusals();
        promise2Limits();
        promise2JustTooMany();
        promise2Taking();
        promise2Dropping();
        promise2Giving();
        promise3Back();
        promise4Told();
        promise5Readings();
        promise6Means();
        promise6Named();
        promise7Answer();
        promise7Doubt();
        promise8Level();
        promise9Grounds();
        promise9GroundsThatFollow();
        promise10Judge();
        promise11Asks();
        promise12Fewest();
        promise13Wrong();
        promise14Count();
        System.out.println(checks + " checks, " + failures + " failed");
        if (failures != 0) {
            System.exit(1);
        }
    }

    private static void same(String what, long got, long due) {
        checks++;
        if (got != due) {
            failures++;
            System.out.println(what + ": answered " + got + ", due is " + due);
        }
    }

    private static void yes(String what, boolean got) {
        same(what, got ? 1 : 0, 1);
    }

    private static void no(String what, boolean got) {
        same(what, got ? 1 : 0, 0);
    }

    /** All signs but the end must fit; answers what the end answers. */
    private static boolean end(TextAsker x, int... signs) {
        for (int sign : signs) {
            yes("sign " + sign + " of " + java.util.Arrays.toString(signs), x.sign(sign));
        }
        return x.sign(END);
    }

    private static TextAsker text(int[]... sentences) {
        TextAsker x = new TextAsker();
        for (int[] sentence : sentences) {
            yes(java.util.Arrays.toString(sentence), end(x, sentence));
        }
        return x;
    }

    private static int[] s(int... signs) {
        return signs;
    }

    private static int bits(int... sentences) {
        int all = 0;
        for (int sentence : sentences) {
            all |= 1 << sentence;
        }
        return all;
    }

    private static void promise1NewObject() {
        TextAsker x = new TextAsker();
        same("1: NONE", NONE, -1);
        same("1: sentences", x.count(0), 0);
        same("1: begun", x.count(1), 0);
        same("1: readings", x.count(2), 1);
        same("1: with an answer", x.count(3), 8);
        same("1: in doubt", x.count(4), 0);
        same("1: told", x.told(0, 0), NONE);
        same("1: fewest", x.fewest(), 0);
        same("1: grounds of the empty reading", x.grounds(3, 0, 0), 0);
        same("1: no place", x.answer(0, 0, 0), NOT_TOLD);
        TextAsker other = text(s(0, GOES, 20));
        same("1: objects are apart", x.count(0), 0);
        same("1: the other has one", other.count(0), 1);
    }

    private static void fitOnly(String where, int[] ahead, int... fitting) {
        for (int sign = -60; sign <= 120; sign++) {
            boolean due = false;
            for (int fit : fitting) {
                due |= fit == sign;
            }
            TextAsker x = text(s(0, GOES, 20));
            for (int begun : ahead) {
                yes("2: ahead " + begun, x.sign(begun));
            }
            same("2: " + where + ", sign " + sign, x.sign(sign) ? 1 : 0, due ? 1 : 0);
            if (!due) {
                same("2: " + where + ", refused changes nothing", x.count(1), ahead.length);
                same("2: " + where + ", refused is not told", x.told(1, ahead.length), NONE);
            }
        }
    }

    private static void promise2Grammar() {
        int[] who = {0, 1, 2, 3, 4, 5, 6, 7, HE, SHE};
        int[] things = {10, 11, 12, 13, 14, 15, 16, 17, 18, 19};
        fitOnly("subject", s(), who);
        fitOnly("verb", s(7), GOES, TAKES, DROPS, GIVES);
        fitOnly("verb behind he", s(HE), GOES, TAKES, DROPS, GIVES);
        fitOnly("place", s(1, GOES), 20, 21, 22, 23, 24, 25, 26, 27);
        fitOnly("thing taken", s(1, TAKES), things);
        fitOnly("thing dropped", s(1, DROPS), things);
        fitOnly("thing given", s(1, GIVES), things);
        fitOnly("receiver", s(1, GIVES, 19), who);
        fitOnly("end of goes", s(1, GOES, 27), END);
        fitOnly("end of takes", s(1, TAKES, 10), END);
        fitOnly("end of drops", s(1, DROPS, 10), END);
        fitOnly("end of gives", s(1, GIVES, 10, 3), END);
        TextAsker x = new TextAsker();
        no("2: least int", x.sign(Integer.MIN_VALUE));
        no("2: greatest int", x.sign(Integer.MAX_VALUE));
    }

    private static void promise2Refusals() {
        TextAsker x = text(s(1, GOES, 20));
        no("2: he means nobody", end(x, HE, GOES, 21));
        same("2: the begun sentence goes", x.count(1), 0);
        same("2: and none is added", x.count(0), 1);
        same("2: nothing of it is told", x.told(1, 0), NONE);
        no("2: receiver he means nobody", end(x, 1, GIVES, 10, HE));
        no("2: he isn't named in his own sentence", end(x, 2, GIVES, 10, HE));
        same("2: answers stand", x.answer(0, 1, 1), 20);
        same("2: level stands", x.level(0, 1, 1), 1);
        same("2: readings stand", x.count(2), 1);
        yes("2: she means 1", end(x, SHE, GOES, 22));
        same("2: she went", x.answer(0, 1, 2), 22);
    }

    private static TextAsker manyReadings() {
        TextAsker x = text(s(0, GIVES, 10, 2));
        for (int thing = 11; thing <= 16; thing++) {
            yes("2: he takes " + thing, end(x, HE, TAKES, thing));
        }
        return x;
    }

    private static void promise2JustTooMany() {
        TextAsker x = text(s(0, GIVES, 10, 2), s(HE, GOES, 20), s(HE, GIVES, 13, 1), s(HE, GOES, 21), s(HE, DROPS, 11),
                s(HE, GIVES, 10, 1), s(HE, GOES, 20), s(HE, GOES, 21));
        int before = x.count(2);
        no("2: 65 may not", end(x, HE, TAKES, 11));
        same("2: the eight stay", x.count(0), 8);
        same("2: with their readings", x.count(2), before);
    }

    private static void promise2Limits() {
        TextAsker x = manyReadings();
        same("2: 64 readings may be", x.count(2), 64);
        no("2: 128 may not", end(x, HE, TAKES, 17));
        same("2: the begun one goes", x.count(1), 0);
        same("2: still 64", x.count(2), 64);
        same("2: still seven", x.count(0), 7);
        yes("2: one without a choice", end(x, HE, DROPS, 11));
        same("2: 64 again", x.count(2), 64);
        for (int sentence = 8; sentence < 14; sentence++) {
            yes("2: sentence " + sentence, end(x, 1, GOES, 20 + sentence % 8));
        }
        same("2: 14 sentences", x.count(0), 14);
        for (int sign = -1; sign <= 51; sign++) {
            no("2: no 15th, sign " + sign, x.sign(sign));
        }
        same("2: nothing begun", x.count(1), 0);
        yes("2: room again", x.back());
        yes("2: a sign fits again", x.sign(0));
    }

    private static void promise2Taking() {
        TextAsker x = text(s(0, GOES, 20), s(2, GOES, 20), s(4, GOES, 21), s(0, TAKES, 10));
        no("2: another one has it", end(x, 2, TAKES, 10));
        yes("2: one's own again", end(x, 0, TAKES, 10));
        yes("2: dropped at 20", end(x, 0, DROPS, 10));
        no("2: it lies elsewhere", end(x, 4, TAKES, 10));
        yes("2: it lies here", end(x, 2, TAKES, 10));
        x = text(s(0, DROPS, 11), s(4, GOES, 21));
        yes("2: it lies nobody knows where", end(x, 4, TAKES, 11));
        same("2: and they stay", x.answer(0, 4, 3), 21);
        x = text(s(0, DROPS, 11), s(0, GOES, 20), s(4, GOES, 21));
        yes("2: to go tells not where one dropped", end(x, 4, TAKES, 11));
    }

    private static void promise2Dropping() {
        TextAsker x = text(s(0, TAKES, 10));
        no("2: another one drops it", end(x, 1, DROPS, 10));
        yes("2: who has it drops it", end(x, 0, DROPS, 10));
        no("2: it lies already", end(x, 0, DROPS, 10));
        no("2: what lies is not given", end(x, 0, GIVES, 10, 1));
        yes("2: of 11 nothing is told", end(x, 1, DROPS, 11));
        same("2: so it lies", x.answer(2, 1, 3), 9);
    }

    private static void promise2Giving() {
        TextAsker x = text(s(0, GOES, 20), s(1, GOES, 21), s(2, GOES, 20));
        no("2: to oneself", end(x, 0, GIVES, 10, 0));
        no("2: places aren't one", end(x, 0, GIVES, 10, 1));
        yes("2: places are one", end(x, 0, GIVES, 10, 2));
        no("2: another one has it", end(x, 0, GIVES, 10, 4));
        no("2: the receiver has it", end(x, 0, GIVES, 10, 2));
        yes("2: both nowhere told", end(x, 3, GIVES, 11, 5));
        same("2: giver's place isn't told", x.answer(0, 3, 5), NOT_TOLD);
        same("2: receiver's place isn't told", x.answer(0, 5, 5), NOT_TOLD);
        yes("2: giver's place follows", end(x, 3, GIVES, 12, 1));
        same("2: giver is there", x.answer(0, 3, 6), 21);
        yes("2: receiver's place follows", end(x, 1, GIVES, 12, 7));
        same("2: receiver is there", x.answer(0, 7, 7), 21);
        no("2: what follows binds", end(x, 7, GIVES, 12, 0));
    }

    private static void promise3Back() {
        TextAsker x = new TextAsker();
        no("3: nothing", x.back());
        x.sign(0);
        yes("3: the begun one goes", x.back());
        no("3: nothing again", x.back());
        x = text(s(0, GOES, 20), s(0, GOES, 21));
        x.sign(1);
        x.sign(TAKES);
        yes("3: begun first", x.back());
        same("3: both stay", x.count(0), 2);
        same("3: nothing begun", x.count(1), 0);
        yes("3: then the last", x.back());
        same("3: one stays", x.count(0), 1);
        same("3: its answer", x.answer(0, 0, 1), 20);
        same("3: the second is gone", x.answer(0, 0, 2), NONE);
        same("3: it is not told", x.told(1, 0), NONE);
        yes("3: another one", end(x, 1, GIVES, 10, 0));
        same("3: the other one's answer", x.answer(0, 1, 2), 20);
        yes("3: and back", x.back());
        yes("3: and back again", x.back());
        no("3: to nothing", x.back());
        same("3: an empty text", x.count(3), 8);
    }

    private static void promise4Told() {
        TextAsker x = text(s(0, GOES, 20), s(0, GIVES, 19, 1));
        int[] first = {0, GOES, 20, END, NONE};
        int[] second = {0, GIVES, 19, 1, END, NONE};
        for (int i = 0; i < first.length; i++) {
            same("4: first " + i, x.told(0, i), first[i]);
        }
        for (int i = 0; i < second.length; i++) {
            same("4: second " + i, x.told(1, i), second[i]);
        }
        same("4: none begun", x.told(2, 0), NONE);
        x.sign(HE);
        x.sign(TAKES);
        same("4: begun 0", x.told(2, 0), HE);
        same("4: begun 1", x.told(2, 1), TAKES);
        same("4: begun 2", x.told(2, 2), NONE);
        same("4: sentence -1", x.told(-1, 0), NONE);
        same("4: sentence 3", x.told(3, 0), NONE);
        same("4: i -1", x.told(0, -1), NONE);
        same("4: i of the least", x.told(0, Integer.MIN_VALUE), NONE);
        same("4: sentence of the greatest", x.told(Integer.MAX_VALUE, 0), NONE);
    }

    private static void promise5Readings() {
        TextAsker x = text(s(0, GIVES, 10, 2), s(HE, TAKES, 11), s(HE, DROPS, 12), s(0, TAKES, 11));
        same("5: of nothing", x.readings(0), 1);
        same("5: of one", x.readings(1), 1);
        same("5: of two", x.readings(2), 2);
        same("5: of three", x.readings(3), 4);
        same("5: a later one takes some away", x.readings(4), 2);
        same("5: k too great", x.readings(5), NONE);
        same("5: k below 0", x.readings(-1), NONE);
        x.sign(0);
        same("5: the begun one doesn't count", x.readings(5), NONE);
        x = text(s(0, GIVES, 10, 2), s(HE, GIVES, 11, HE));
        same("5: receiver and subject aren't one", x.readings(2), 2);
    }

    private static void promise6Means() {
        TextAsker x = text(s(4, GIVES, 10, 2), s(HE, GIVES, 11, 1), s(HE, GIVES, 12, HE));
        same("6: readings", x.count(2), 4);
        int[][] due = {{2, 2, 4}, {2, 4, 2}, {4, 2, 4}, {4, 4, 2}};
        for (int r = 0; r < 4; r++) {
            same("6: named subject in " + r, x.means(0, 0, r), 4);
            same("6: named receiver in " + r, x.means(0, 1, r), 2);
            same("6: first he in " + r, x.means(1, 0, r), due[r][0]);
            same("6: named 1 in " + r, x.means(1, 1, r), 1);
            same("6: second he in " + r, x.means(2, 0, r), due[r][1]);
            same("6: third he in " + r, x.means(2, 1, r), due[r][2]);
        }
        same("6: r too great", x.means(1, 0, 4), NONE);
        same("6: r too great where one is named", x.means(0, 0, 4), NONE);
        same("6: r below 0", x.means(1, 0, -1), NONE);
        same("6: which 2", x.means(1, 2, 0), NONE);
        same("6: which -1", x.means(1, -1, 0), NONE);
        same("6: sentence -1", x.means(-1, 0, 0), NONE);
        same("6: sentence 3", x.means(3, 0, 0), NONE);
        x.sign(HE);
        same("6: one begun means nobody yet", x.means(3, 0, 0), NONE);
        x = text(s(0, GOES, 20), s(HE, TAKES, 10), s(HE, DROPS, 10));
        same("6: goes has no receiver", x.means(0, 1, 0), NONE);
        same("6: takes has no receiver", x.means(1, 1, 0), NONE);
        same("6: drops has no receiver", x.means(2, 1, 0), NONE);
    }

    private static void promise6Named() {
        TextAsker x = text(s(0, GOES, 20), s(2, GOES, 21), s(HE, TAKES, 10));
        same("6: the latest man", x.means(2, 0, 0), 2);
        same("6: alone", x.count(2), 1);
        x = text(s(0, GOES, 20), s(1, GOES, 21), s(HE, TAKES, 10), s(SHE, TAKES, 11));
        same("6: a woman between", x.means(2, 0, 0), 0);
        same("6: he between", x.means(3, 0, 0), 1);
        x = text(s(0, GIVES, 10, 2), s(2, GOES, 20), s(HE, GOES, 21));
        same("6: the latest sentence alone", x.means(2, 0, 0), 2);
        same("6: one reading", x.count(2), 1);
        x = text(s(0, GIVES, 10, 1), s(HE, GIVES, 11, SHE), s(SHE, GIVES, 12, HE));
        same("6: he and she", x.means(1, 0, 0), 0);
        same("6: she as receiver", x.means(1, 1, 0), 1);
        same("6: he as receiver", x.means(2, 1, 0), 0);
        x = text(s(0, GIVES, 10, 2), s(HE, GIVES, 11, 4), s(HE, GOES, 20));
        same("6: he is not named by he", x.means(2, 0, 0), 4);
        same("6: two readings by the first he", x.count(2), 2);
        x = text(s(7, GIVES, 10, 3), s(SHE, GOES, 20));
        same("6: least woman first", x.means(1, 0, 0), 3);
        same("6: then the other", x.means(1, 0, 1), 7);
    }

    private static void promise7Answer() {
        TextAsker x = text(s(0, GOES, 20), s(0, TAKES, 10), s(0, GOES, 23), s(0, TAKES, 19), s(0, DROPS, 10),
                s(0, GOES, 24), s(1, TAKES, 11), s(3, DROPS, 12));
        same("7: where 0 is", x.answer(0, 0, 8), 24);
        same("7: where 0 was", x.answer(0, 0, 4), 23);
        same("7: where 0 was first", x.answer(0, 0, 1), 20);
        same("7: where 0 was ahead of all", x.answer(0, 0, 0), NOT_TOLD);
        same("7: what they have goes along", x.answer(1, 0, 3), 23);
        same("7: what lies stays", x.answer(1, 0, 8), 23);
        same("7: who has what lies", x.answer(2, 0, 8), 9);
        same("7: who had it", x.answer(2, 0, 4), 0);
        same("7: the other thing goes along", x.answer(1, 9, 8), 24);
        same("7: holder's place isn't told", x.answer(1, 1, 8), NOT_TOLD);
        same("7: holder is told", x.answer(2, 1, 8), 1);
        same("7: nobody knows where", x.answer(1, 2, 8), NOT_TOLD);
        same("7: but it lies", x.answer(2, 2, 8), 9);
        same("7: nothing told of 13", x.answer(2, 3, 8), NOT_TOLD);
        same("7: how many 0 has", x.answer(3, 0, 8), 1);
        same("7: how many 0 had", x.answer(3, 0, 4), 2);
        same("7: how many 7 has", x.answer(3, 7, 8), 0);
        for (int kind = 0; kind < 4; kind++) {
            int abouts = kind == 1 || kind == 2 ? 10 : 8;
            same("7: about too great, kind " + kind, x.answer(kind, abouts, 8), NONE);
            same("7: about -1, kind " + kind, x.answer(kind, -1, 8), NONE);
            same("7: k 9, kind " + kind, x.answer(kind, 0, 9), NONE);
            same("7: k -1, kind " + kind, x.answer(kind, 0, -1), NONE);
        }
        same("7: kind 4", x.answer(4, 0, 0), NONE);
        same("7: kind -1", x.answer(-1, 0, 0), NONE);
    }

    private static void promise7Doubt() {
        TextAsker x = text(s(0, GIVES, 10, 2), s(HE, GOES, 20));
        same("7: some don't tell", x.answer(0, 0, 2), IN_DOUBT);
        same("7: nor 2", x.answer(0, 2, 2), IN_DOUBT);
        same("7: a thing of one in doubt", x.answer(1, 0, 2), IN_DOUBT);
        same("7: who has it is no doubt", x.answer(2, 0, 2), 2);
        same("7: none tells", x.answer(0, 4, 2), NOT_TOLD);
        x = text(s(0, GIVES, 10, 2), s(HE, TAKES, 11), s(0, GOES, 20), s(2, GOES, 20));
        same("7: alike where, whoever has it", x.answer(1, 1, 4), 20);
        same("7: not alike who", x.answer(2, 1, 4), IN_DOUBT);
        same("7: not alike how many 0", x.answer(3, 0, 4), IN_DOUBT);
        same("7: not alike how many 2", x.answer(3, 2, 4), IN_DOUBT);
        same("7: a late sentence", x.answer(1, 1, 3), IN_DOUBT);
        yes("7: 2 has it", end(x, 2, DROPS, 11));
        same("7: a reading went", x.count(2), 1);
        same("7: by the first four it's still doubt", x.answer(2, 1, 4), IN_DOUBT);
        same("7: by all it isn't", x.answer(2, 1, 5), 9);
    }

    private static void promise8Level() {
        TextAsker x = text(s(0, GOES, 20), s(0, DROPS, 10), s(1, TAKES, 10), s(1, GIVES, 11, 3), s(1, TAKES, 12));
        same("8: not told", x.level(0, 1, 2), 0);
        same("8: goes", x.level(0, 0, 5), 1);
        same("8: lies", x.level(1, 0, 2), 2);
        same("8: who, if it lies", x.level(2, 0, 2), 1);
        same("8: follows of takes", x.level(0, 1, 3), 3);
        same("8: has it and is there", x.level(1, 0, 3), 3);
        same("8: follows of gives", x.level(0, 3, 4), 4);
        same("8: of a given thing", x.level(1, 1, 4), 4);
        same("8: how many", x.level(3, 1, 5), 2);
        same("8: how many, none", x.level(3, 0, 5), 0);
        same("8: kind 4", x.level(4, 0, 0), NONE);
        same("8: kind -1", x.level(-1, 0, 0), NONE);
        same("8: about 8", x.level(3, 8, 0), NONE);
        same("8: about 10", x.level(2, 10, 0), NONE);
        same("8: k 6", x.level(0, 0, 6), NONE);
        same("8: k -1", x.level(0, 0, -1), NONE);
        x = text(s(0, GOES, 20), s(0, GIVES, 10, 2), s(HE, DROPS, 11));
        same("8: most in a reading", x.level(1, 1, 3), 3);
        x = text(s(0, GIVES, 10, 2), s(HE, GOES, 21));
        same("8: in doubt, some don't tell", x.level(0, 0, 2), 1);
    }

    private static void promise9Grounds() {
        TextAsker x = text(s(0, GOES, 20), s(0, TAKES, 10), s(0, TAKES, 10), s(0, GOES, 20), s(0, TAKES, 11));
        same("9: the latest goes", x.grounds(0, 0, 0), bits(3));
        same("9: nothing new by a second takes", x.grounds(2, 0, 0), bits(1));
        same("9: has and is there", x.grounds(1, 0, 0), bits(1, 3));
        same("9: each of these", x.grounds(3, 0, 0), bits(1, 4));
        same("9: none had", x.grounds(3, 1, 0), 0);
        same("9: not told", x.grounds(0, 1, 0), 0);
        same("9: r 1", x.grounds(0, 0, 1), NONE);
        same("9: r -1", x.grounds(0, 0, -1), NONE);
        same("9: kind 4", x.grounds(4, 0, 0), NONE);
        same("9: kind -1", x.grounds(-1, 0, 0), NONE);
        same("9: about 8", x.grounds(0, 8, 0), NONE);
        same("9: about 10", x.grounds(1, 10, 0), NONE);
        same("9: about -1", x.grounds(2, -1, 0), NONE);
        x = text(s(0, GIVES, 10, 2), s(HE, GOES, 20));
        same("9: in the first reading", x.grounds(0, 0, 0), bits(1));
        same("9: not of 2", x.grounds(0, 2, 0), 0);
        same("9: in the second not of 0", x.grounds(0, 0, 1), 0);
        same("9: in the second of 2", x.grounds(0, 2, 1), bits(1));
        same("9: where is what the unplaced one has", x.grounds(1, 0, 0), 0);
        x = text(s(0, DROPS, 10));
        same("9: where it lies isn't told", x.grounds(1, 0, 0), 0);
        same("9: that it lies is", x.grounds(2, 0, 0), bits(0));
    }

    private static void promise9GroundsThatFollow() {
        TextAsker x = text(s(1, GOES, 22), s(0, GOES, 20), s(0, DROPS, 10), s(0, GOES, 21), s(2, TAKES, 10),
                s(2, GIVES, 11, 4), s(6, GIVES, 12, 4), s(4, GOES, 25), s(4, DROPS, 11));
        same("9: follows of takes", x.grounds(0, 2, 0), bits(1, 2, 4));
        same("9: of the taken thing", x.grounds(1, 0, 0), bits(1, 2, 4));
        same("9: giver by the receiver's", x.grounds(0, 6, 0), bits(1, 2, 4, 5, 6));
        same("9: goes is a new ground", x.grounds(0, 4, 0), bits(7));
        same("9: lies", x.grounds(1, 1, 0), bits(7, 8));
        same("9: that it lies", x.grounds(2, 1, 0), bits(8));
        same("9: given", x.grounds(2, 2, 0), bits(6));
        same("9: how many", x.grounds(3, 4, 0), bits(6));
        x = text(s(0, GOES, 20), s(2, GOES, 20), s(0, GIVES, 10, 2), s(2, DROPS, 10), s(0, TAKES, 10));
        same("9: told places keep their grounds", x.grounds(0, 2, 0), bits(1));
        same("9: also the taker's", x.grounds(0, 0, 0), bits(0));
        same("9: the latest to come to have it", x.grounds(2, 0, 0), bits(4));
    }

    private static void promise10Judge() {
        TextAsker x = text(s(0, GOES, 20), s(0, TAKES, 10), s(0, GOES, 21), s(0, DROPS, 10), s(1, TAKES, 10));
        same("10: right place", x.judge(0, 0, 21), 0);
        same("10: was the place", x.judge(0, 0, 20), 2);
        same("10: never the place", x.judge(0, 0, 27), 3);
        same("10: 28 is no place", x.judge(0, 0, 28), 1);
        same("10: 19 is no place", x.judge(0, 0, 19), 1);
        same("10: right thing's place", x.judge(1, 0, 21), 0);
        same("10: was the thing's place", x.judge(1, 0, 20), 2);
        same("10: a thing's place is no person", x.judge(1, 0, 1), 1);
        same("10: right person", x.judge(2, 0, 1), 0);
        same("10: was the person", x.judge(2, 0, 0), 2);
        same("10: it lay", x.judge(2, 0, 9), 2);
        same("10: never the person", x.judge(2, 0, 7), 3);
        same("10: 8 is no person", x.judge(2, 0, 8), 1);
        same("10: 10 is no person", x.judge(2, 0, 10), 1);
        same("10: -2 is no person", x.judge(2, 0, -2), 1);
        same("10: right number", x.judge(3, 1, 1), 0);
        same("10: was the number", x.judge(3, 1, 0), 2);
        same("10: never the number", x.judge(3, 1, 10), 3);
        same("10: 11 is no number", x.judge(3, 1, 11), 1);
        same("10: -1 is no number", x.judge(3, 1, -1), 1);
        same("10: -2 is no place though it was not told", x.judge(0, 0, -2), 1);
        same("10: not told", x.judge(0, 2, 20), NONE);
        same("10: kind 4", x.judge(4, 0, 0), NONE);
        same("10: kind -1", x.judge(-1, 0, 0), NONE);
        same("10: about 8", x.judge(3, 8, 0), NONE);
        same("10: about 10", x.judge(1, 10, 20), NONE);
        x = text(s(0, TAKES, 10));
        same("10: of the empty text", x.judge(3, 0, 0), 2);
        same("10: 9 never was, it does not lie", x.judge(2, 0, 9), 3);
        x = text(s(0, GIVES, 10, 2), s(HE, GOES, 20));
        same("10: in doubt", x.judge(0, 0, 20), NONE);
        yes("10: 0 goes", end(x, 0, GOES, 21));
        same("10: what was in doubt never was the answer", x.judge(0, 0, 20), 3);
        x = text(s(0, GIVES, 10, 2), s(HE, TAKES, 11), s(2, DROPS, 11));
        same("10: readings of the text that ends there", x.judge(2, 1, 2), 3);
    }

    private static void promise11Asks() {
        TextAsker x = text(s(0, GOES, 20), s(0, DROPS, 10), s(1, TAKES, 10));
        same("11: place", x.asks(0, 0), bits(0));
        same("11: place that follows", x.asks(0, 1), bits(0, 1, 2));
        same("11: thing", x.asks(1, 0), bits(0, 1, 2));
        same("11: who", x.asks(2, 0), bits(2));
        same("11: how many", x.asks(3, 1), bits(2));
        same("11: how many, none", x.asks(3, 0), 0);
        same("11: not told", x.asks(0, 2), 0);
        same("11: kind 4", x.asks(4, 0), NONE);
        same("11: kind -1", x.asks(-1, 0), NONE);
        same("11: about 8", x.asks(0, 8), NONE);
        same("11: about 10", x.asks(2, 10), NONE);
        same("11: about -1", x.asks(2, -1), NONE);
        x = text(s(0, GIVES, 10, 2), s(HE, TAKES, 11), s(0, GOES, 20), s(2, GOES, 20));
        same("11: in all readings alone", x.asks(1, 1), bits(1));
        same("11: in doubt", x.asks(2, 1), 0);
    }

    private static void promise12Fewest() {
        same("12: one", text(s(0, GOES, 20)).fewest(), 1);
        same("12: goes twice", text(s(0, GOES, 20), s(0, GOES, 21)).fewest(), 1);
        same("12: two persons", text(s(0, GOES, 20), s(1, GOES, 21)).fewest(), 2);
        same("12: one that holds all", text(s(0, GOES, 20), s(0, DROPS, 10), s(1, TAKES, 10)).fewest(), 1);
        same("12: how many holds all", text(s(0, TAKES, 10), s(0, TAKES, 11), s(0, TAKES, 12)).fewest(), 1);
        same("12: how many and where", text(s(0, TAKES, 10), s(0, TAKES, 11), s(0, GOES, 20)).fewest(), 2);
        same("12: doubt asks for nothing", text(s(0, GIVES, 10, 2), s(HE, GOES, 20)).fewest(), 1);
        TextAsker x = text(s(0, GOES, 20), s(2, GOES, 21), s(4, GOES, 22), s(6, GOES, 23), s(1, GOES, 24),
                s(3, GOES, 25), s(5, GOES, 26), s(7, GOES, 27), s(0, TAKES, 10), s(2, TAKES, 11), s(4, TAKES, 12),
                s(6, TAKES, 13), s(1, TAKES, 14), s(3, TAKES, 15));
        same("12: a thing for each", x.fewest(), 8);
        x = text(s(0, TAKES, 10), s(0, TAKES, 11), s(2, TAKES, 12), s(2, TAKES, 13), s(0, GOES, 20), s(2, GOES, 21));
        same("12: numbers and places", x.fewest(), 4);
    }

    private static void promise13Wrong() {
        TextAsker x = text(s(6, GOES, 27), s(6, TAKES, 10), s(5, GOES, 21), s(0, GOES, 24), s(0, DROPS, 11));
        same("13: place 0", x.wrong(0, 6, 0), 21);
        same("13: place 1", x.wrong(0, 6, 1), 24);
        same("13: place 2", x.wrong(0, 6, 2), NONE);
        same("13: thing's place 0", x.wrong(1, 1, 0), 21);
        same("13: thing's place 1", x.wrong(1, 1, 1), 27);
        same("13: thing's place 2", x.wrong(1, 1, 2), NONE);
        same("13: person 0", x.wrong(2, 0, 0), 0);
        same("13: person 1", x.wrong(2, 0, 1), 5);
        same("13: person 2", x.wrong(2, 0, 2), NONE);
        same("13: it lies, so all persons are wrong", x.wrong(2, 1, 2), 6);
        same("13: and no more", x.wrong(2, 1, 3), NONE);
        same("13: i -1", x.wrong(0, 6, -1), NONE);
        same("13: i of the least", x.wrong(0, 6, Integer.MIN_VALUE), NONE);
        same("13: kind 3", x.wrong(3, 6, 0), NONE);
        same("13: kind 4", x.wrong(4, 0, 0), NONE);
        same("13: kind -1", x.wrong(-1, 0, 0), NONE);
        same("13: about 8", x.wrong(0, 8, 0), NONE);
        same("13: about 10", x.wrong(1, 10, 0), NONE);
        same("13: not told", x.wrong(0, 7, 0), NONE);
        yes("13: a receiver is named", end(x, 6, GIVES, 12, 3));
        same("13: the receiver", x.wrong(2, 0, 1), 3);
        x = text(s(0, GIVES, 10, 2), s(HE, GOES, 20));
        same("13: in doubt", x.wrong(0, 0, 0), NONE);
        same("13: persons that are named", x.wrong(2, 0, 0), 0);
        same("13: but for the answer", x.wrong(2, 0, 1), NONE);
        x.back();
        x.sign(4);
        same("13: of whole sentences", x.wrong(2, 0, 1), NONE);
    }

    private static void promise14Count() {
        TextAsker x = text(s(0, GIVES, 10, 2), s(HE, GOES, 20));
        x.sign(HE);
        x.sign(DROPS);
        same("14: sentences", x.count(0), 2);
        same("14: begun", x.count(1), 2);
        same("14: readings", x.count(2), 2);
        same("14: answers: who has 10, and 8 numbers", x.count(3), 9);
        same("14: doubt: where 0, 2 and 10 are", x.count(4), 3);
        same("14: 5", x.count(5), NONE);
        same("14: -1", x.count(-1), NONE);
        same("14: greatest", x.count(Integer.MAX_VALUE), NONE);
    }
}
