import java.math.BigInteger;

/**
 * Each sentence of the document that names a boundary case (too small, too large, empty, full, a wrap-around,
 * a refused call) has a test of its own here, in the document's order. All answers due were worked out by hand.
 */
public final class BoundaryTest {
    private static final String ILLEGAL = "IllegalArgumentException";
    private static final String INDEX = "IndexOutOfBoundsException";
    private static final String STATE = "IllegalStateException";
    private static final String NO_ELEMENT = "NoSuchElementException";
    private static final int MIN = Integer.MIN_VALUE;
    private static final int MAX = Integer.MAX_VALUE;
    private static int tests = 0;
    private static int wrong = 0;

    interface Call {
        Object answer();
    }

    private static String told(Call call) {
        try {
            return String.valueOf(call.answer());
        } catch (RuntimeException thrown) {
            return thrown.getClass().getSimpleName();
        }
    }

    private static void due(String sentence, Object want, Call call) {
        String got = told(call);
        tests++;
        if (!got.equals(String.valueOf(want))) {
            wrong++;
            System.out.println(sentence + ": answered " + got + ", due is " + want);
        }
    }

    /** A call that has to throw, and to change nothing that can be seen without changing anything. */
    private static void refused(String sentence, SteadyQueues x, String exception, Call call) {
        String before = x.checksum() + " " + x.state(8) + " " + x.errorOffset();
        due(sentence, exception, call);
        due(sentence + ", nothing changes", before, () -> x.checksum() + " " + x.state(8) + " " + x.errorOffset());
    }

    private static int feed(SteadyQueues x, String text) {
        int length = 0;
        for (int from = 0; from < text.length(); from += 20) {
            int[] words = new int[5];
            for (int i = 0; i < 20; i++) {
                words[i / 4] = words[i / 4] << 8 | (from + i < text.length() ? text.charAt(from + i) : 0);
            }
            length = x.append(words[0], words[1], words[2], words[3], words[4]);
        }
        return length;
    }

    private static int loaded(SteadyQueues x, String text) {
        feed(x, text);
        return x.load(text.length());
    }

    private static SteadyQueues made(String text) {
        SteadyQueues x = new SteadyQueues();
        due("a text for a test, '" + text + "', has no error", true, () -> loaded(x, text) > 0);
        return x;
    }

    private static void texted(String sentence, String text, String want) {
        SteadyQueues x = new SteadyQueues();
        due(sentence + ", '" + text + "'", want, () -> loaded(x, text) + " at " + x.errorOffset());
    }

    private static String list(SteadyQueues x, int version, int list) {
        StringBuilder text = new StringBuilder();
        for (int i = 0; x.value(version, list, i) != -1; i++) {
            text.append(i == 0 ? "" : " ").append(x.value(version, list, i));
        }
        return text.toString();
    }

    /** Its values / front / rear / old front / new front / old rear / new rear. */
    private static String lists(SteadyQueues x, int version) {
        StringBuilder text = new StringBuilder(list(x, version, 0));
        for (int i = 1; i <= 6; i++) {
            text.append('/').append(list(x, version, i));
        }
        return text.toString();
    }

    /** Front length, rear length, kind, ok, steps. */
    private static String settled(SteadyQueues x, int version) {
        StringBuilder text = new StringBuilder();
        for (int what = 4; what <= 8; what++) {
            text.append(what == 4 ? "" : " ").append(x.version(version, what));
        }
        return text.toString();
    }

    private static String states(SteadyQueues x) {
        StringBuilder text = new StringBuilder();
        for (int what = 0; what <= 9; what++) {
            text.append(what == 0 ? "" : " ").append(x.state(what));
        }
        return text.toString();
    }

    private static String numbers(int from, int to) {
        StringBuilder text = new StringBuilder();
        for (int i = from; i <= to; i++) {
            text.append(' ').append(i);
        }
        return text.toString();
    }

    private static String repeated(char sign, int times) {
        return String.valueOf(sign).repeat(times);
    }

    private static SteadyQueues full() {
        return made("queue;push 0" + numbers(1, 63) + ";");
    }

    // ---------------------------------------------------------------- What it is; Terms: versions

    private static void atMost512Calls() {
        SteadyQueues x = new SteadyQueues();
        for (int i = 0; i < 255; i++) {
            x.push(0, i % 100);
            x.undo();
        }
        x.push(0, 77);
        due("the 512th call is promised as the first one", 77, () -> x.first(1));
        SteadyQueues y = full();
        for (int i = 0; i < 503; i++) {
            y.idleIn(63);
        }
        due("512 of the dearest calls", 21, () -> y.idleIn(63));
    }

    private static void versions() {
        due("there are at most 64 versions: just 64", 64, () -> full().state(0));
        SteadyQueues full = full();
        refused("there are at most 64 versions: no 65th by a push", full, STATE, () -> full.push(0, 1));
        refused("there are at most 64 versions: no 65th by a pop", full, STATE, () -> full.pop(1));
        due("there are at most 64 versions: no 65th by a text", -4, () -> loaded(full, "queue;push 0" + numbers(1, 64) + ";"));
        due("indexes from 0 in the order in which they were made", "1 2 3 4", () -> {
            SteadyQueues x = new SteadyQueues();
            return x.push(0, 5) + " " + x.push(0, 6) + " " + x.pop(1) + " " + x.push(1, 7);
        });
        SteadyQueues fresh = new SteadyQueues();
        due("version 0 was made of none", "-1 -1", () -> fresh.version(0, 0) + " " + fresh.version(0, 1));
        due("depth is 0 for version 0", 0, () -> fresh.version(0, 2));
        due("depth is the versions made from version 0 to it", "63 1 1", () -> {
            SteadyQueues x = made("queue;push 0 5;push 0 6;");
            return full.version(63, 2) + " " + x.version(1, 2) + " " + x.version(2, 2);
        });
        due("version 0 has lists without values", "//////", () -> lists(fresh, 0));
        due("version 0 has lengths 0, and an idle turn", "0 0 0 0 0", () -> settled(fresh, 0));
        due("version 0 keeps them when others are made of it", "//////", () -> lists(full, 0));
    }

    private static void noVersionIsDone() {
        int[] kinds = new int[4];
        for (int pace = 2; pace <= 4; pace++) {
            SteadyQueues x = made("queue;pace " + pace + ";push 0" + numbers(1, 40) + ";pop 31 23;");
            for (int i = 0; i < 64; i++) {
                kinds[x.version(i, 6)]++;
            }
        }
        due("kind 3: no version has it; each other kind occurs", "true true true 0", () ->
            (kinds[0] > 0) + " " + (kinds[1] > 0) + " " + (kinds[2] > 0) + " " + kinds[3]);
    }

    // ---------------------------------------------------------------- Terms: steps

    private static void steps() {
        SteadyQueues x = made("queue;push 0 1 2 3 4 5 6 7 8 9 10;");
        due("reversing, old front and old rear not empty: twice", "1 2 3 4 5 6 7/1 2 3//3/2 1/5 4/6 7", () -> lists(x, 7));
        due("and ok is 1 more each time", "7 0 1 2 2", () -> settled(x, 7));
        due("reversing, old front empty, old rear just one value: appending", "1 2 3 4 5 6 7 8/1 2 3/8//3 2 1//4 5 6 7", () -> lists(x, 8));
        due("with its ok", "7 1 2 3 2", () -> settled(x, 8));
        due("appending, ok above 0: twice", "1 2 3 4 5 6 7 8 9/1 2 3/9 8//1//2 3 4 5 6 7", () -> lists(x, 9));
        due("and ok is 1 less each time", "7 2 2 1 2", () -> settled(x, 9));
        due("appending, ok 1, then 0: done", "1 2 3 4 5 6 7 8 9 10/1 2 3 4 5 6 7/10 9 8////", () -> lists(x, 10));
        due("and idle then", "7 3 0 0 2", () -> settled(x, 10));
        SteadyQueues y = made("queue;pace 3;push 0 1 2 3 4 5 6 7 8 9;");
        due("old front empty, old rear one value: between two versions", "1 2 3 4 5 6 7/1 2 3///3 2 1/4/5 6 7", () -> lists(y, 7));
        due("still reversing", "7 0 1 3 3", () -> settled(y, 7));
        due("appending, ok 0: between two versions", "1 2 3/1/////1 2 3", () -> lists(y, 3));
        due("still appending", "3 0 2 0 3", () -> settled(y, 3));
        due("appending, ok 0: done by one step", "3 1 0 0 1", () -> settled(y, 4));
        due("one step with ok 1, one with ok 0", "7 2 0 0 2", () -> settled(y, 9));
        due("otherwise nothing changes, not counted", "1 1 0 0 0", () -> settled(y, 2));
    }

    private static void settling() {
        SteadyQueues x = made("queue;push 0 1 2 3;");
        due("rear length 1 above front length 0: a turn", "1 0 0 0 2", () -> settled(x, 1));
        due("rear length not above front length, but the same: none", "1 1 0 0 0", () -> settled(x, 2));
        due("and the rear stays", "1 2/1/2////", () -> lists(x, 2));
        due("rear length 2 above front length 1: a turn", "3 0 2 1 2", () -> settled(x, 3));
        due("the rear is empty, the front stays", "1 2 3/1///1//2 3", () -> lists(x, 3));
        SteadyQueues pops = made("queue;push 0 1 2;pop 2 1;");
        due("a pop makes the rear longer than the front: a turn", "1 0 0 0 2", () -> settled(pops, 3));
        due("a turn whose old front is empty", "2/2/////", () -> lists(pops, 3));
        due("a pop that leaves no value: no turn", "0 0 0 0 0", () -> settled(made("queue;push 0 1;pop 1 1;"), 2));
        SteadyQueues least = made("queue;pace 2;push 0 1 2 3 4 5 6 7;");
        due("as many steps as pace tells: 2", "7 0 1 2 2", () -> settled(least, 7));
        SteadyQueues most = made("queue;pace 4;push 0 1 2 3 4 5 6 7 8;");
        due("as many steps as pace tells: 4", "7 0 2 3 4", () -> settled(most, 7));
        due("just as many as there are: the last one is done by the 4th", "7 1 0 0 4", () -> settled(most, 8));
        due("none behind one by which the turn is done: 2 of 4", "1 0 0 0 2", () -> settled(most, 1));
        due("all 4 at once", "3 0 0 0 4", () -> settled(most, 3));
        due("if the turn is done, the front is its list", "1 2 3/1 2 3/////", () -> lists(most, 3));
    }

    private static void pops() {
        SteadyQueues x = made("queue;push 0 1 2 3 4 5 6 7 8;pop 7 3;");
        due("a pop, reversing: ok is 1 less, then 1 step more", "6 0 2 2 2", () -> settled(x, 9));
        due("its lists", "2 3 4 5 6 7/2 3///3 2 1//4 5 6 7", () -> lists(x, 9));
        due("a pop, appending, ok 2: 1 less, then one step, then done", "5 0 0 0 2", () -> settled(x, 10));
        due("its front is the turn's list", "3 4 5 6 7/3 4 5 6 7/////", () -> lists(x, 10));
        due("a pop, idle", "4 0 0 0 0", () -> settled(x, 11));
        SteadyQueues one = made("queue;push 0 1 2 3;pop 3 1;");
        due("a pop, appending, ok 1: 0, then done by a step that counts", "2 0 0 0 1", () -> settled(one, 4));
        due("its front, the new front being left", "2 3/2 3/////", () -> lists(one, 4));
        SteadyQueues none = made("queue;pace 3;push 0 1 2 3 4 5 6 7;pop 3 1;pop 7 2;");
        due("a pop, appending, ok 0: done, not counted as a step", "2 0 0 0 0", () -> settled(none, 8));
        due("new rear without its first value", "2 3/2 3/////", () -> lists(none, 8));
        due("a pop, reversing, one value in old rear: ok 2, 1, 0", "6 0 2 0 3", () -> settled(none, 9));
        due("appending with ok 0: none of the front counts", "2 3 4 5 6 7/2 3///1//2 3 4 5 6 7", () -> lists(none, 9));
        due("a pop of it: done, the new front being left", "3 4 5 6 7/3 4 5 6 7/////", () -> lists(none, 10));
        due("and no step", "5 0 0 0 0", () -> settled(none, 10));
        due("the length is front length and rear length together", "7 6 5", () ->
            none.version(7, 3) + " " + none.version(9, 3) + " " + none.version(10, 3));
    }

    private static void aVersionWithValuesHasOneInItsFront() {
        boolean all = true;
        for (int pace = 2; pace <= 4; pace++) {
            SteadyQueues x = made("queue;pace " + pace + ";push 0" + numbers(1, 32) + ";pop 32 31;");
            for (int i = 0; i < 64; i++) {
                int front = x.version(i, 10);
                all &= x.version(i, 3) == 0 ? front == 0 : front > 0 && x.value(i, 1, 0) == x.first(i);
            }
        }
        boolean each = all;
        due("a version with values has one in its front, the first one", true, () -> each);
    }

    private static void otherQueue() {
        SteadyQueues x = made("queue;push 0 1 2;pop 2 2;push 4 3;pop 5 1;push 2 4;");
        due("a push: 1 step", "2 1", () -> x.work(2, 2) + " " + x.work(2, 3));
        due("a pop, front empty: it moves all 2 values first", "5 3", () -> x.work(3, 2) + " " + x.work(3, 3));
        due("a pop, one value in its front: 1 step", "6 3", () -> x.work(4, 2) + " " + x.work(4, 3));
        due("a pop that moves one value: 2 steps", "9 3", () -> x.work(6, 2) + " " + x.work(6, 3));
        due("no pop on the way", "3 1", () -> x.work(7, 2) + " " + x.work(7, 3));
        SteadyQueues kept = made("queue;push 0 1 2;pop 2 1;push 3 3 4;pop 5 2;");
        due("a rear does not move while the front has a value", "8 3", () -> kept.work(6, 2) + " " + kept.work(6, 3));
        due("it moves when the front is empty", "11 3", () -> kept.work(7, 2) + " " + kept.work(7, 3));
    }

    // ---------------------------------------------------------------- Terms: the setup text

    private static void textOf500Bytes() {
        String start = "queue;push 0 ";
        texted("the buffer of at most 500 bytes: a number of 486 digits", start + repeated('0', 484) + "42;", "2 at -1");
        texted("a number of any length, too great", start + repeated('9', 486) + ";", "-3 at 13");
        texted("leading zeros do not matter, for any number", "queue;pace 0004;push 0000 0099 000;pop 0002 0002;", "5 at -1");
        texted("500 bytes, the text ends too early", "queue;" + repeated(' ', 494), "1 at -1");
        texted("500 spaces", repeated(' ', 500), "-2 at 500");
        due("500 statements' bytes: 64 versions with many spaces", 64, () -> {
            StringBuilder text = new StringBuilder("queue;push 0");
            for (int i = 1; i <= 63; i++) {
                text.append("     ").append(i % 10);
            }
            return loaded(new SteadyQueues(), text.append(';').toString());
        });
    }

    private static void numbersThatWrap() {
        texted("a number that wraps around to 1 as an int", "queue;push 0 4294967297;", "-3 at 13");
        texted("a number that wraps around to 1 as a long", "queue;push 0 18446744073709551617;", "-3 at 13");
        texted("the greatest int, and 1 more", "queue;push 0 2147483648;", "-3 at 13");
        texted("a version that wraps around to 0", "queue;push 4294967296 1;", "-3 at 11");
        texted("a version that wraps around to 0 as a long, of pop", "queue;pop 18446744073709551616 1;", "-3 at 10");
        texted("a number of pops that wraps around to 1", "queue;push 0 5;pop 1 4294967297;", "-3 at 21");
        texted("a pace that wraps around to 3", "queue;pace 4294967299;", "-3 at 11");
        texted("a pace of 1002", "queue;pace 1002;", "-3 at 11");
    }

    private static void longestRuns() {
        texted("each run is as long as possible: words", "queue;pushpush 0 1;", "-2 at 6");
        texted("each run is as long as possible: queue", "queuequeue;", "-2 at 0");
        texted("each run is as long as possible: a word with a letter more", "queue;pops 0 1;", "-2 at 6");
        texted("each run is as long as possible: a word with a letter less", "queue;pus 0 1;", "-2 at 6");
        texted("each run is as long as possible: numbers", "queue;pace22;", "-3 at 10");
        due("each run is as long as possible: 12 is one value", "12", () -> list(made("queue;push 0 12;"), 1, 0));
        String[] words = {"xueue;", "queux;", "queue;xush 0 1;", "queue;pusx 0 1;", "queue;xop 0 1;", "queue;pox 0 1;", "queue;xace 2;", "queue;pacx 2;"};
        for (String text : words) {
            texted("a word with its first or last letter wrong", text, text.startsWith("queue;") ? "-2 at 6" : "-2 at 0");
        }
        texted("spaces are needed only between two numbers", "queue;pace4;push0 1 2;pop2 2;", "5 at -1");
        texted("one number, where two are needed", "queue;push01;", "-3 at 10");
        texted("spaces may precede any token", "   queue   ;   pace   3   ;   push   0   1   ;   pop   1   1   ;", "3 at -1");
        texted("spaces may follow the last one", "queue;   ", "1 at -1");
        texted("spaces within a word", "que ue;", "-2 at 0");
        texted("spaces within a number make two", "queue;pop 0 1 1;", "-5 at 12");
        texted("letters are a to z: A", "queue;Push 0 1;", "-2 at 6");
        texted("letters are a to z: a byte below a", "queue;`", "-2 at 6");
        texted("letters are a to z: a byte above z", "queue;{", "-2 at 6");
        texted("digits are 0 to 9: a byte below 0", "queue;push /0 1;", "-2 at 11");
        texted("digits are 0 to 9: a byte above 9", "queue;push : 1;", "-2 at 11");
    }

    private static void noOtherByteSeparates() {
        int[] bytes = {0, 9, 10, 11, 12, 13, 31, 33, 44, 95, 127, 128, 160, 255};
        for (int sign : bytes) {
            texted("no other byte separates tokens: " + sign, "queue;push 0 1" + (char) sign + "2;", "-2 at 14");
            texted("no other byte precedes the text: " + sign, (char) sign + "queue;", "-2 at 0");
            texted("no other byte follows the text: " + sign, "queue;" + (char) sign, "-2 at 6");
        }
        texted("a letter between two numbers", "queue;push 0 1a2;", "-2 at 14");
        texted("digits that are none below byte 128", "queue;push 0 " + (char) (128 + '1') + ";", "-2 at 13");
        texted("a semicolon that is none below byte 128", "queue" + (char) (128 + ';'), "-2 at 5");
    }

    private static void statements() {
        texted("queue; alone", "queue;", "1 at -1");
        texted("no queue", "push 0 1;", "-2 at 0");
        texted("queue without ;", "queue push 0 1;", "-2 at 6");
        texted("an empty statement", "queue;;", "-2 at 6");
        texted("a second queue", "queue;queue;", "-2 at 6");
        texted("push without a version", "queue;push;", "-2 at 10");
        texted("push without a value", "queue;push 0;", "-2 at 12");
        texted("push with one value", "queue;push 0 1;", "2 at -1");
        texted("pop without a version", "queue;pop;", "-2 at 9");
        texted("pop without a number of pops", "queue;push 0 1;pop 1;", "-2 at 20");
        texted("pop with three numbers", "queue;push 0 1;pop 1 1 1;", "-2 at 23");
        texted("pace without a number", "queue;pace;", "-2 at 10");
        texted("pace with two numbers", "queue;pace 3 3;", "-2 at 13");
        texted("a word in place of a number", "queue;pace pace;", "-2 at 11");
        texted("a number in place of a statement", "queue;1;", "-2 at 6");
        texted("a number in place of queue", "1;", "-2 at 0");
        due("the first value to this version, each other to the one made by the one before", "5 6 7/1 2", () -> {
            SteadyQueues x = made("queue;push 0 5 6 7;");
            return list(x, 3, 0) + "/" + x.version(2, 0) + " " + x.version(3, 0);
        });
        due("pops are done likewise", "6 versions, 3 4", () -> {
            SteadyQueues x = made("queue;push 0 5 6 7;pop 3 2;");
            return x.state(0) + " versions, " + x.version(4, 0) + " " + x.version(5, 0);
        });
        due("pace is 2 without its statement", 2, () -> made("queue;").state(1));
        due("pace is 2 without its statement, behind a text with one", 2, () -> {
            SteadyQueues x = made("queue;pace 4;");
            loaded(x, "queue;push 0 1;");
            return x.state(1);
        });
        due("pace is 2 without its statement, a 4 having been undone", "1 2", () -> {
            SteadyQueues x = new SteadyQueues();
            x.rule(4);
            x.undo();
            return loaded(x, "queue;") + " " + x.state(1);
        });
        due("pace is 2 without its statement, a 4 having been read ahead of an error", "2 2 2", () -> {
            SteadyQueues x = new SteadyQueues();
            loaded(x, "queue;pace 4;push 0 1;;");
            return loaded(x, "queue;push 0 1;") + " " + x.state(1) + " " + x.version(1, 8);
        });
        due("its statement ahead of all pushes and pops", 4, () -> made("queue;pace 4;push 0 1;").state(1));
    }

    private static void syntaxErrors() {
        texted("the end of the text, at its length: nothing", "", "-2 at 0");
        texted("the end of the text behind spaces", "    ", "-2 at 4");
        texted("the end of the text behind queue", "queue", "-2 at 5");
        texted("the end of the text within a word", "queu", "-2 at 0");
        texted("the end of the text behind push", "queue;push", "-2 at 10");
        texted("the end of the text behind a version, and spaces", "queue;push 0  ", "-2 at 14");
        texted("the end of the text behind a value", "queue;push 0 1", "-2 at 14");
        texted("the end of the text behind pop", "queue;pop", "-2 at 9");
        texted("the end of the text behind a version of pop", "queue;pop 0", "-2 at 11");
        texted("the end of the text behind a number of pops", "queue;push 0 1;pop 1 1", "-2 at 22");
        texted("the end of the text behind pace", "queue;pace ", "-2 at 11");
        texted("the end of the text behind a pace", "queue;pace 3", "-2 at 12");
        texted("a second pace, at its first letter", "queue;pace 2; pace 2;", "-2 at 14");
        texted("a pace behind a push", "queue;push 0 1;pace 2;", "-2 at 15");
        texted("a pace behind a pop", "queue;push 0 1;pop 1 1;pace 2;", "-2 at 23");
        texted("a second pace that is out of range, too", "queue;pace 2;pace 9;", "-2 at 13");
    }

    private static void outOfRange() {
        texted("pace too small", "queue;pace 1;", "-3 at 11");
        texted("pace least", "queue;pace 2;", "1 at -1");
        texted("pace greatest", "queue;pace 4;", "1 at -1");
        texted("pace too large", "queue;pace 5;", "-3 at 11");
        texted("pace 0", "queue;pace 00;", "-3 at 11");
        texted("value least", "queue;push 0 0;", "2 at -1");
        texted("value greatest", "queue;push 0 99;", "2 at -1");
        texted("value too large", "queue;push 0 100;", "-3 at 13");
        texted("value too large, not the first one, behind spaces and zeros", "queue;push 0 1 2   00100;", "-3 at 19");
        texted("version that there is not, by 1", "queue;push 1 5;", "-3 at 11");
        texted("the latest version", "queue;push 0 5;push 1 6;", "3 at -1");
        texted("version that there is not yet: it would be made by this push", "queue;push 0 5;push 2 6;", "-3 at 20");
        texted("version of pop that there is not, by 1", "queue;push 0 5;pop 2 1;", "-3 at 19");
        texted("the latest version of pop", "queue;push 0 5;pop 1 1;", "3 at -1");
        texted("pops too small", "queue;push 0 5;pop 1 0;", "-3 at 21");
        texted("pops least", "queue;push 0 5;pop 1 1;", "3 at -1");
        texted("pops too large", "queue;push 0 5;pop 1 65;", "-3 at 21");
        texted("pops 64 are in range, and too many", "queue;push 0 5;pop 1 64;", "-4 at 21");
        due("versions of an earlier text do not count", "-3 at 11", () -> {
            SteadyQueues x = made("queue;push 0 1 2 3;");
            return loaded(x, "queue;push 3 1;") + " at " + x.errorOffset();
        });
    }

    private static void tooManyAndEmpty() {
        String all = "queue;push 0" + numbers(1, 63);
        texted("64 versions by a text", all + ";", "64 at -1");
        texted("the value with which there would be 65, at its first digit", all + " 007;", "-4 at " + (all.length() + 1));
        texted("a push to a version, 64 being there", all + ";push 0 1;", "-4 at " + (all.length() + 8));
        texted("a pop, 64 being there", all + ";pop 1 1;", "-4 at " + (all.length() + 7));
        String some = "queue;push 0" + numbers(1, 32) + ";pop 32 ";
        texted("pops with which there are just 64", some + "31;", "64 at -1");
        texted("pops with which there would be 65", some + "32;", "-4 at " + some.length());
        texted("as many pops as values", "queue;push 0 5 6;pop 2 2;", "5 at -1");
        texted("a pop more than values", "queue;push 0 5 6;pop 2 3;", "-5 at 23");
        texted("a pop of version 0", "queue;pop 0 1;", "-5 at 12");
        texted("a pop of a version that was popped empty", "queue;push 0 5;pop 1 1;pop 2 1;", "-5 at 29");
        texted("pops of a version that has fewer values than the latest", "queue;push 0 5 6 7;pop 1 2;", "-5 at 25");
    }

    private static void severalErrors() {
        String all = "queue;push 0" + numbers(1, 63);
        texted("the smallest offset, not the first kind", "queue;pace 5;;", "-3 at 11");
        texted("the smallest offset: version, then value", "queue;push 9 100;", "-3 at 11");
        texted("the smallest offset: empty, then no end", "queue;pop 0 1", "-5 at 12");
        texted("the smallest offset: a value too large, then a byte", "queue;push 0 100#", "-3 at 13");
        texted("the same offset: OUT_OF_RANGE ahead of TOO_MANY, a value", all + " 100;", "-3 at " + (all.length() + 1));
        texted("the same offset: OUT_OF_RANGE ahead of TOO_MANY, pops", all + ";pop 1 65;", "-3 at " + (all.length() + 7));
        texted("the same offset: OUT_OF_RANGE ahead of EMPTY, pops", "queue;pop 0 65;", "-3 at 12");
        texted("the same offset: TOO_MANY ahead of EMPTY", "queue;pop 0 64;", "-4 at 12");
        texted("EMPTY alone, 64 versions not being passed", "queue;pop 0 63;", "-5 at 12");
        texted("the same offset: SYNTAX_ERROR ahead of TOO_MANY", all + ";push 1 x;", "-2 at " + (all.length() + 8));
    }

    // ---------------------------------------------------------------- Terms: changes; the methods' exceptions

    private static void everyRefusedCallChangesNothing() {
        SteadyQueues x = made("queue;pace 3;push 0 1 2 3;pop 1 1;");
        due("an error for its offset", -2, () -> loaded(x, "queue;#"));
        due("bytes for the buffer", 20, () -> feed(x, "queue;push 0 9;"));
        int[] wrongVersions = {MIN, -1, 5, 64, MAX};
        for (int v : wrongVersions) {
            refused("version(" + v + ", 11)", x, INDEX, () -> x.version(v, 11));
            refused("value(" + v + ", 7, 0)", x, INDEX, () -> x.value(v, 7, 0));
            refused("first(" + v + ")", x, INDEX, () -> x.first(v));
            refused("find(" + v + ", 1)", x, INDEX, () -> x.find(v, 1));
            refused("alike(" + v + ", 0)", x, INDEX, () -> x.alike(v, 0));
            refused("alike(0, " + v + ")", x, INDEX, () -> x.alike(0, v));
            refused("alike(" + v + ", " + v + ")", x, INDEX, () -> x.alike(v, v));
            refused("common(" + v + ", 0)", x, INDEX, () -> x.common(v, 0));
            refused("common(0, " + v + ")", x, INDEX, () -> x.common(0, v));
            refused("common(" + v + ", " + v + ")", x, INDEX, () -> x.common(v, v));
            refused("work(" + v + ", 4)", x, INDEX, () -> x.work(v, 4));
            refused("idleIn(" + v + ")", x, INDEX, () -> x.idleIn(v));
            refused("push(" + v + ", 100)", x, INDEX, () -> x.push(v, 100));
            refused("pop(" + v + ")", x, INDEX, () -> x.pop(v));
            refused("drop(" + v + ")", x, INDEX, () -> x.drop(v));
        }
        int[] wrongNumbers = {MIN, -1, 100, MAX};
        for (int n : wrongNumbers) {
            refused("load(" + n + ")", x, ILLEGAL, () -> x.load(n));
            refused("state(" + n + ")", x, ILLEGAL, () -> x.state(n));
            refused("version(4, " + n + ")", x, ILLEGAL, () -> x.version(4, n));
            refused("value(4, " + n + ", 0)", x, ILLEGAL, () -> x.value(4, n, 0));
            refused("work(4, " + n + ")", x, ILLEGAL, () -> x.work(4, n));
            refused("ranked(" + n + ")", x, NO_ELEMENT, () -> x.ranked(n));
            refused("push(4, " + n + ")", x, ILLEGAL, () -> x.push(4, n));
            refused("rule(" + n + ")", x, ILLEGAL, () -> x.rule(n));
        }
        refused("first(0)", x, NO_ELEMENT, () -> x.first(0));
        refused("pop(0)", x, STATE, () -> x.pop(0));
        refused("drop(0)", x, STATE, () -> x.drop(0));
        refused("drop(1)", x, STATE, () -> x.drop(1));
        due("the buffer is as before them all", 2, () -> x.load(15));
        due("the latest version is still an index", 9, () -> x.first(1));
    }

    private static void whichExceptionComesFirst() {
        SteadyQueues full = full();
        refused("push: version ahead of value and of 64 versions", full, INDEX, () -> full.push(64, -1));
        refused("push: value ahead of 64 versions", full, ILLEGAL, () -> full.push(63, -1));
        refused("push: 64 versions", full, STATE, () -> full.push(63, 99));
        refused("pop: version ahead of 64 versions", full, INDEX, () -> full.pop(64));
        refused("pop: no value, and 64 versions", full, STATE, () -> full.pop(0));
        refused("version: version ahead of what", full, INDEX, () -> full.version(64, 11));
        refused("value: version ahead of list", full, INDEX, () -> full.value(64, -1, 0));
        refused("value: list ahead of a place that there is not", full, ILLEGAL, () -> full.value(0, 7, -1));
        refused("work: version ahead of what", full, INDEX, () -> full.work(-1, -1));
        refused("drop: version ahead of children", full, INDEX, () -> full.drop(64));
        SteadyQueues fresh = new SteadyQueues();
        refused("first: version ahead of no value", fresh, INDEX, () -> fresh.first(1));
    }

    private static void beforeTheFirstSuccessfulLoad() {
        SteadyQueues x = new SteadyQueues();
        due("a first load with an error", "-5 at 23", () -> loaded(x, "queue;push 0 1 2;pop 2 3;") + " at " + x.errorOffset());
        due("all is as by the text queue;", "1 2 1 0 0 0 0 1 0 0", () -> states(x));
        due("all is as by the text queue;, by checksum", new SteadyQueues().checksum(), x::checksum);
        due("a push then", "1 1", () -> x.push(0, 5) + " " + x.state(8));
    }

    // ---------------------------------------------------------------- Promises 1 to 4

    private static void newObject() {
        SteadyQueues x = new SteadyQueues();
        due("an empty input buffer: nothing to load", ILLEGAL, () -> x.load(1));
        due("an empty input buffer: an append makes 20", 20, () -> x.append(0, 0, 0, 0, 0));
        SteadyQueues y = new SteadyQueues();
        due("as by the text queue;", "1 2 1 0 0 0 0 1 0 0", () -> states(y));
        due("no change can be undone", -1, y::undo);
        due("objects have nothing in common", "2 1", () -> {
            SteadyQueues one = new SteadyQueues();
            SteadyQueues another = new SteadyQueues();
            one.push(0, 1);
            return one.state(0) + " " + another.state(0);
        });
    }

    private static void append() {
        SteadyQueues x = new SteadyQueues();
        for (int i = 1; i <= 24; i++) {
            x.append(0x20202020, 0x20202020, 0x20202020, 0x20202020, 0x20202020);
        }
        due("just 500 bytes", 500, () -> x.append(0x20202020, 0x20202020, 0x20202071, 0x75657565, 0x3b202020));
        due("it would exceed 500 bytes", -1, () -> x.append(-1, -1, -1, -1, -1));
        due("and once more", -1, () -> x.append(MIN, MAX, 0, 1, -1));
        due("the buffer is unchanged then", "1 at -1", () -> x.load(500) + " at " + x.errorOffset());
        due("room again after a load", 20, () -> x.append(0x71756575, 0x653b7075, 0x73682030, 0x20303120, 0x32203b20));
        due("the 4 bytes of each argument, the most significant first", "3 1 2", () -> x.load(20) + " " + list(x, 2, 0));
    }

    private static void load() {
        SteadyQueues x = new SteadyQueues();
        feed(x, "queue;push 0 8;");
        refused("length negative", x, ILLEGAL, () -> x.load(-1));
        refused("length least", x, ILLEGAL, () -> x.load(MIN));
        refused("length greater than the buffer by 1", x, ILLEGAL, () -> x.load(21));
        refused("length greatest", x, ILLEGAL, () -> x.load(MAX));
        due("the buffer is unchanged then", 2, () -> x.load(15));
        due("the input buffer is empty afterwards", ILLEGAL, () -> x.load(1));
        due("also the bytes that were not read", 20, () -> feed(x, "queue;"));
        due("length the buffer's: its last bytes are read, too", "-2 at 6", () -> x.load(20) + " at " + x.errorOffset());
        due("empty also if the text has an error", ILLEGAL, () -> x.load(1));
        due("an empty text has a SYNTAX_ERROR, the buffer being empty", "-2 at 0", () -> x.load(0) + " at " + x.errorOffset());
        feed(x, "queue;");
        due("an empty text has a SYNTAX_ERROR, the buffer being not", "-2 at 0", () -> x.load(0) + " at " + x.errorOffset());
        due("empty after an empty text", 20, () -> feed(x, "queue;"));
        due("only the first bytes are read", "-2 at 5", () -> x.load(5) + " at " + x.errorOffset());
        due("the number of versions, least", 1, () -> loaded(x, "queue;"));
        due("the number of versions, greatest", 64, () -> full().state(0));
    }

    /** Loads fewer bytes than the text has. */
    private static void cutShort(String sentence, String text, int length, String want) {
        SteadyQueues x = new SteadyQueues();
        feed(x, text);
        due(sentence + ", the first " + length + " of '" + text + "'", want, () -> x.load(length) + " at " + x.errorOffset());
    }

    private static void theTextEndsWithinTheBuffer() {
        cutShort("a number that goes on", "queue;push 0 12;", 14, "-2 at 14");
        cutShort("a value that would be too large", "queue;push 0 991;", 15, "-2 at 15");
        cutShort("a word that goes on", "queues;", 5, "-2 at 5");
        cutShort("a word that is none yet", "queue;push 0 1;", 8, "-2 at 6");
        cutShort("spaces that go on", "queue    ;", 7, "-2 at 7");
        cutShort("the last ; is not read", "queue;push 0 1;", 14, "-2 at 14");
        cutShort("the last ; is just read", "queue;push 0 1; 9", 15, "2 at -1");
        String push = "queue;push 0 ";
        texted("a number at the end of 500 bytes", push + repeated('0', 487), "-2 at 500");
        texted("a number too large at the end of 500 bytes", push + repeated('9', 487), "-3 at 13");
        texted("a word at the end of 500 bytes", "queue;" + repeated(' ', 490) + "push", "-2 at 500");
        texted("a word that is none at the end of 500 bytes", "queue;" + repeated('z', 494), "-2 at 6");
        texted("500 bytes, the last one ;", repeated(' ', 494) + "queue;", "1 at -1");
        SteadyQueues x = new SteadyQueues();
        feed(x, "queue;push 0 7 8 9 10;");
        due("a longer text ahead of it in the buffer", -2, () -> x.load(1));
        due("bytes of an earlier text are not read", "-2 at 20", () -> loaded(x, "queue;push 0 7 8 9 1") + " at " + x.errorOffset());
    }

    private static void loadLeavesOrReplaces() {
        SteadyQueues x = made("queue;pace 4;push 0 1 2 3;pop 3 1;");
        x.drop(4);
        x.rule(3);
        long before = x.checksum();
        due("an error at its end leaves all other data", "-2 true 3", () ->
            loaded(x, "queue;pace 2;push 0 9 8 7;pop 3 3") + " " + (x.checksum() == before) + " " + x.state(8));
        due("dropped, too", "3 1", () -> x.state(1) + " " + x.state(9));
        due("a load that succeeds replaces all", "2 2 1 0 1 2 2 1 4 0", () -> loaded(x, "queue;push 0 9;") > 0 ? states(x) : "");
        due("its undo brings all back", "3 true", () -> x.undo() + " " + (x.checksum() == before));
    }

    private static void errorOffset() {
        SteadyQueues x = new SteadyQueues();
        due("-1 if there was no such call", -1, x::errorOffset);
        refused("a load that throws is none", x, ILLEGAL, () -> x.load(1));
        due("-1 still", -1, x::errorOffset);
        due("offset 0", "-2 at 0", () -> loaded(x, ";") + " at " + x.errorOffset());
        due("the greatest offset", "-2 at 500", () -> loaded(x, "queue" + repeated(' ', 495)) + " at " + x.errorOffset());
        refused("a load that throws leaves it", x, ILLEGAL, () -> x.load(-1));
        due("the latest that did not throw", 500, x::errorOffset);
        due("-1 if it found none", "1 at -1", () -> loaded(x, "queue;") + " at " + x.errorOffset());
    }

    // ---------------------------------------------------------------- Promises 5 to 7

    private static void state() {
        SteadyQueues x = new SteadyQueues();
        due("what 0 to 9, of version 0 alone", "1 2 1 0 0 0 0 1 0 0", () -> states(x));
        refused("what too small", x, ILLEGAL, () -> x.state(-1));
        refused("what too large", x, ILLEGAL, () -> x.state(10));
        // Turns begin in versions 1, 3, 7, 15, 31 and 63; with n values in old front a turn has 2n + 2 steps, so it ends
        // n versions later: 2 + 4 + 8 + 16 + 32 steps and 0 + 1 + 3 + 7 + 15 versions, and 2 steps and 1 version of 63.
        SteadyQueues full = full();
        due("what 0 to 9, of 64 versions", "64 2 1 27 63 64 2 1 1 0", () -> states(full));
        full.drop(63);
        due("what 0 to 9, when the deepest is dropped", "63 2 1 26 62 62 2 1 2 1", () -> states(full));
        SteadyQueues y = made("queue;pace 4;push 0 1 2 3;");
        y.drop(3);
        due("the most steps of one version, that one being dropped", "2 2", () -> y.state(5) + " " + y.state(6));
        due("changes that can be undone: a load and a drop", 2, () -> y.state(8));
        for (int i = 0; i < 6; i++) {
            y.rule(3);
        }
        due("changes that can be undone: 8", 8, () -> y.state(8));
        y.rule(3);
        due("changes that can be undone: 8 at most", 8, () -> y.state(8));
        y.drop(2);
        y.drop(1);
        due("dropped since the latest load", 3, () -> y.state(9));
        due("an undone drop is none", 2, () -> y.undo() < 0 ? -1 : y.state(9));
        due("an error is no load", 2, () -> loaded(y, "queue") < 0 ? y.state(9) : -1);
        due("0 after a load", 0, () -> loaded(y, "queue;") > 0 ? y.state(9) : -1);
        SteadyQueues z = made("queue;push 0 1;pop 1 1;push 2 2;");
        due("versions without values: a popped one, too", 2, () -> z.state(7));
    }

    private static void version() {
        SteadyQueues x = made("queue;push 0 0 99;pop 2 1;push 1 5;");
        due("parent -1 of version 0", -1, () -> x.version(0, 0));
        due("pushed -1 of version 0", -1, () -> x.version(0, 1));
        due("pushed -1 of a pop", -1, () -> x.version(3, 1));
        due("pushed least and greatest", "0 99", () -> x.version(1, 1) + " " + x.version(2, 1));
        due("ok 0 if it is idle", 0, () -> x.version(1, 7));
        due("children none, one, two", "0 1 2", () -> x.version(3, 9) + " " + x.version(2, 9) + " " + x.version(1, 9));
        x.drop(3);
        due("children that were dropped are none", "0 2", () -> x.version(2, 9) + " " + x.version(1, 9));
        refused("no such version by 1", x, INDEX, () -> x.version(4, 0));
        refused("no such version, negative", x, INDEX, () -> x.version(-1, 0));
        refused("what too small", x, ILLEGAL, () -> x.version(0, -1));
        refused("what too large", x, ILLEGAL, () -> x.version(0, 11));
        due("what greatest", "0 1", () -> x.version(0, 10) + " " + x.version(1, 10));
        due("values of the front while the turn is not done, 63 values", "31 63 1", () -> {
            SteadyQueues full = full();
            return full.version(63, 10) + " " + full.version(63, 4) + " " + full.version(63, 6);
        });
    }

    private static void value() {
        SteadyQueues x = made("queue;push 0 1 2 3 4 5 6 7 8;");
        int[] sizes = {7, 3, 0, 1, 2, 2, 2};
        for (int list = 0; list <= 6; list++) {
            int of = list;
            int size = sizes[list];
            due("the last place of list " + of, size > 0, () -> x.value(7, of, size - 1) != -1);
            due("the place behind list " + of, -1, () -> x.value(7, of, size));
            due("the place ahead of list " + of, -1, () -> x.value(7, of, -1));
            due("the least place of list " + of, -1, () -> x.value(7, of, MIN));
            due("the greatest place of list " + of, -1, () -> x.value(7, of, MAX));
            due("a place of an empty list " + of, -1, () -> x.value(0, of, 0));
        }
        due("3 to 6: empty if its turn has none such", "///", () ->
            list(x, 8, 3) + "/" + list(x, 8, 5) + "/" + list(x, 6, 4) + "/" + list(x, 6, 6));
        due("appending: a new front and a new rear", "3 2 1/4 5 6 7", () -> list(x, 8, 4) + "/" + list(x, 8, 6));
        refused("no such version by 1", x, INDEX, () -> x.value(9, 0, 0));
        refused("no such version, negative", x, INDEX, () -> x.value(-1, 0, 0));
        refused("list too small", x, ILLEGAL, () -> x.value(8, -1, 0));
        refused("list too large", x, ILLEGAL, () -> x.value(8, 7, 0));
        due("the 63rd of 63 values, and the place behind", "63 -1", () -> {
            SteadyQueues full = full();
            return full.value(63, 0, 62) + " " + full.value(63, 0, 63);
        });
        due("place 64, one behind the greatest number of versions", -1, () -> full().value(63, 0, 64));
    }

    // ---------------------------------------------------------------- Promises 8 to 16

    private static void first() {
        SteadyQueues x = made("queue;push 0 0;pop 1 1;push 1 9;pop 3 1;");
        due("of one value, 0", 0, () -> x.first(1));
        due("of the rear's value that was turned", 9, () -> x.first(4));
        refused("it has none: version 0", x, NO_ELEMENT, () -> x.first(0));
        refused("it has none: popped empty", x, NO_ELEMENT, () -> x.first(2));
        refused("no such version by 1", x, INDEX, () -> x.first(5));
        refused("no such version, negative", x, INDEX, () -> x.first(-1));
        due("appending, ok 0: the first of new rear", 2, () -> made("queue;pace 3;push 0 1 2 3 4 5 6 7;pop 7 1;").first(8));
    }

    private static void find() {
        SteadyQueues x = made("queue;push 0 5 0 5 99;pop 4 1;");
        due("the first one of several", 0, () -> x.find(4, 5));
        due("the last place", 3, () -> x.find(4, 99));
        due("the first one is gone: the next", 1, () -> x.find(5, 5));
        due("value 0", 1, () -> x.find(4, 0));
        due("any number: -1, as an answer for none", -1, () -> x.find(5, -1));
        due("any number: 100, least, greatest", "-1 -1 -1", () -> x.find(5, 100) + " " + x.find(5, MIN) + " " + x.find(5, MAX));
        due("-1 of an empty one", -1, () -> x.find(0, 0));
        due("-1 of a popped value", -1, () -> made("queue;push 0 5 6;pop 2 1;").find(3, 5));
        due("a value that another version has, but this one has not", -1, () -> x.find(1, 99));
        due("place 62 of 63 values", 62, () -> full().find(63, 63));
        refused("no such version by 1", x, INDEX, () -> x.find(6, 5));
        refused("no such version, negative", x, INDEX, () -> x.find(-1, 5));
    }

    private static void alike() {
        SteadyQueues x = made("queue;push 0 5;pop 1 1;push 2 5 6;push 1 7;push 0 6 5;");
        due("two empty ones", true, () -> x.alike(0, 2));
        due("one with itself", true, () -> x.alike(5, 5));
        due("an empty one and one value", "false false", () -> x.alike(0, 1) + " " + x.alike(1, 0));
        due("the same value, other ways", "true true", () -> x.alike(1, 3) + " " + x.alike(3, 1));
        due("one more at the end", "false false", () -> x.alike(1, 4) + " " + x.alike(4, 1));
        due("other at the last place", false, () -> x.alike(4, 5));
        due("other order", false, () -> x.alike(4, 7));
        refused("no such version by 1", x, INDEX, () -> x.alike(8, 0));
        refused("no such other by 1", x, INDEX, () -> x.alike(0, 8));
        due("the same values, one reversing, one appending", "true 1 2", () -> {
            SteadyQueues y = made("queue;push 0 1 2 3 4 5 6 7;push 0 9 1 2 3 4 5 6;push 14 7;pop 15 1;");
            return y.alike(7, 16) + " " + y.version(7, 6) + " " + y.version(16, 6);
        });
    }

    private static void common() {
        SteadyQueues x = made("queue;push 0 5 6;push 1 7;push 0 8;");
        due("each version was made from itself: 0", 0, () -> x.common(0, 0));
        due("each version was made from itself: the latest", 4, () -> x.common(4, 4));
        due("one was made from the other", "1 1", () -> x.common(1, 2) + " " + x.common(2, 1));
        due("siblings", "1 1", () -> x.common(2, 3) + " " + x.common(3, 2));
        due("version 0 alone", "0 0", () -> x.common(4, 3) + " " + x.common(0, 4));
        refused("no such version by 1", x, INDEX, () -> x.common(5, 0));
        refused("no such other by 1", x, INDEX, () -> x.common(0, 5));
        x.drop(2);
        due("indexes less by 1", "1 0", () -> x.common(2, 1) + " " + x.common(2, 3));
        due("along 63 versions", "63 1", () -> {
            SteadyQueues full = full();
            return full.common(63, 63) + " " + full.common(63, 1);
        });
    }

    private static void work() {
        SteadyQueues x = made("queue;pace 4;push 0 1 2 3;pop 3 3;push 0 4;");
        due("version 0", "0 0 0 0", () -> x.work(0, 0) + " " + x.work(0, 1) + " " + x.work(0, 2) + " " + x.work(0, 3));
        due("steps on the way alone", "6 6 2", () -> x.work(3, 0) + " " + x.work(6, 0) + " " + x.work(7, 0));
        due("the most steps on the way alone", "2 4 4 2", () -> x.work(2, 1) + " " + x.work(3, 1) + " " + x.work(6, 1) + " " + x.work(7, 1));
        due("the other queue", "3 9 1", () -> x.work(3, 2) + " " + x.work(6, 2) + " " + x.work(7, 2));
        due("the other queue's most steps", "1 4 1", () -> x.work(3, 3) + " " + x.work(6, 3) + " " + x.work(7, 3));
        refused("no such version by 1", x, INDEX, () -> x.work(8, 0));
        refused("no such version, negative", x, INDEX, () -> x.work(-1, 0));
        refused("what too small", x, ILLEGAL, () -> x.work(7, -1));
        refused("what too large", x, ILLEGAL, () -> x.work(7, 4));
        due("a way of 63 versions: 32 pushes, and 31 pops, the first one moves 32", "32 95 33", () -> {
            SteadyQueues y = made("queue;push 0" + numbers(1, 32) + ";pop 32 31;");
            return y.work(32, 2) + " " + y.work(63, 2) + " " + y.work(63, 3);
        });
    }

    private static void idleIn() {
        SteadyQueues x = made("queue;push 0 1 2 3 4 5 6 7;");
        due("0 if it is: version 0, one value, a rear", "0 0 0", () -> x.idleIn(0) + " " + x.idleIn(1) + " " + x.idleIn(6));
        due("in one pop: appending, ok 1", 1, () -> x.idleIn(3));
        due("in two pops: reversing", 2, () -> x.idleIn(7));
        due("in one pop that is no step: appending, ok 0", 1, () -> made("queue;pace 3;push 0 1 2 3;").idleIn(3));
        refused("no such version by 1", x, INDEX, () -> x.idleIn(8));
        refused("no such version, negative", x, INDEX, () -> x.idleIn(-1));
        due("nothing is made by it", "8 7 1", () -> x.state(0) + " " + x.version(7, 3) + " " + x.state(8));
        due("64 versions do not hinder it", 21, () -> full().idleIn(63));
        boolean within = true;
        for (int pace = 2; pace <= 4; pace++) {
            SteadyQueues y = made("queue;pace " + pace + ";push 0" + numbers(1, 63) + ";");
            y.rule(2);
            for (int i = 0; i < 64; i++) {
                int pops = y.idleIn(i);
                within &= pops >= 0 && pops <= y.version(i, 3) && (pops == 0) == (y.version(i, 6) == 0);
            }
        }
        boolean each = within;
        due("up to its length (no version is known that never would be idle)", true, () -> each);
    }

    private static void gapRankedMeanSteps() {
        SteadyQueues x = new SteadyQueues();
        due("gap of version 0 alone", 0, x::gap);
        due("gap of 64 versions", 0, () -> full().gap());
        due("ranked: version 0 alone", 0, () -> x.ranked(0));
        refused("ranked: no such place by 1", x, NO_ELEMENT, () -> x.ranked(1));
        refused("ranked: no such place, negative", x, NO_ELEMENT, () -> x.ranked(-1));
        SteadyQueues full = full();
        due("ranked: the ends of 64 versions", "63 0", () -> full.ranked(0) + " " + full.ranked(63));
        refused("ranked: no 65th place", full, NO_ELEMENT, () -> full.ranked(64));
        SteadyQueues same = made("queue;push 0 5;push 0 6;push 0 7;");
        due("ranked: of several the smallest index", "1 2 3 0", () ->
            same.ranked(0) + " " + same.ranked(1) + " " + same.ranked(2) + " " + same.ranked(3));
        SteadyQueues none = made("queue;push 0 5;pop 1 1;");
        due("ranked: of several without values the smallest index", "1 0 2", () ->
            none.ranked(0) + " " + none.ranked(1) + " " + none.ranked(2));
        due("meanSteps: 0 if there are none", 0.0f, x::meanSteps);
        due("meanSteps: one", 2.0f, () -> made("queue;push 0 5;").meanSteps());
        due("meanSteps: none made a step", 1.0f, () -> made("queue;push 0 5 6;").meanSteps());
        due("meanSteps: 64 and 63, as floats", 64f / 63f, full::meanSteps);
        due("meanSteps: 0 again when all are dropped", 0.0f, () -> {
            SteadyQueues y = made("queue;push 0 5;");
            y.drop(1);
            return y.meanSteps();
        });
    }

    // ---------------------------------------------------------------- Promises 17 to 20

    private static void push() {
        SteadyQueues x = new SteadyQueues();
        due("value 0", "1 0", () -> x.push(0, 0) + " " + x.first(1));
        due("value 99", "2 99", () -> x.push(0, 99) + " " + x.first(2));
        refused("value too small", x, ILLEGAL, () -> x.push(0, -1));
        refused("value too large", x, ILLEGAL, () -> x.push(0, 100));
        refused("no such version by 1", x, INDEX, () -> x.push(3, 1));
        refused("no such version, negative", x, INDEX, () -> x.push(-1, 1));
        SteadyQueues full = full();
        refused("64 versions", full, STATE, () -> full.push(63, 1));
        full.drop(63);
        due("63 versions: the 64th", "63 64", () -> full.push(62, 1) + " " + full.state(0));
        refused("64 versions again", full, STATE, () -> full.push(0, 1));
        due("63 versions by an undo: the 64th", "2 63", () -> full.undo() + " " + full.push(0, 2));
    }

    private static void pop() {
        SteadyQueues x = made("queue;push 0 1;");
        due("the last value", "2 0", () -> x.pop(1) + " " + x.version(2, 3));
        due("once more, of the same version", "3 0", () -> x.pop(1) + " " + x.version(3, 3));
        refused("it has no value: popped empty", x, STATE, () -> x.pop(2));
        refused("it has no value: version 0", x, STATE, () -> x.pop(0));
        refused("no such version by 1", x, INDEX, () -> x.pop(4));
        refused("no such version, negative", x, INDEX, () -> x.pop(-1));
        SteadyQueues full = full();
        refused("64 versions", full, STATE, () -> full.pop(63));
        full.drop(63);
        due("63 versions: the 64th", "63 64", () -> full.pop(62) + " " + full.state(0));
        refused("64 versions again", full, STATE, () -> full.pop(62));
        due("a push behind pops to none", "5", () -> list(made("queue;push 0 1;pop 1 1;push 2 5;"), 3, 0));
    }

    private static void drop() {
        SteadyQueues x = made("queue;push 0 1 2;push 0 3 4;pop 4 1;");
        refused("it is version 0, with children", x, STATE, () -> x.drop(0));
        refused("it has children", x, STATE, () -> x.drop(3));
        refused("it has a child made by a pop", x, STATE, () -> x.drop(4));
        refused("no such version by 1", x, INDEX, () -> x.drop(6));
        refused("no such version, negative", x, INDEX, () -> x.drop(-1));
        due("the versions then", 5, () -> x.drop(2));
        due("those behind it have an index less by 1", "3/3 4/4", () -> list(x, 2, 0) + "/" + list(x, 3, 0) + "/" + list(x, 4, 0));
        due("their parents, too", "0 2 3", () -> x.version(2, 0) + " " + x.version(3, 0) + " " + x.version(4, 0));
        due("those ahead of it keep theirs", "1 0", () -> list(x, 1, 0) + " " + x.version(1, 0));
        due("the index that was the last one is none now", INDEX, () -> x.version(5, 0));
        due("the last one", "4 0", () -> x.drop(4) + " " + x.version(3, 9));
        due("all but version 0", "3 2 1", () -> x.drop(3) + " " + x.drop(2) + " " + x.drop(1));
        refused("it is version 0, without children", x, STATE, () -> x.drop(0));
        SteadyQueues full = full();
        due("of 64 versions", "63 62", () -> full.drop(63) + " " + full.drop(62));
        SteadyQueues early = made("queue;push 0 9;push 0" + numbers(1, 62) + ";");
        due("an early one of 64", "63 62 61", () -> early.drop(1) + " " + early.version(62, 3) + " " + early.version(62, 0));
    }

    private static void rule() {
        SteadyQueues x = new SteadyQueues();
        due("least and greatest, the one before", "2 2 4", () -> x.rule(2) + " " + x.rule(4) + " " + x.rule(3));
        due("also as the data stay: a change", 3, () -> x.state(8));
        refused("pace too small", x, ILLEGAL, () -> x.rule(1));
        refused("pace too large", x, ILLEGAL, () -> x.rule(5));
        refused("pace 0", x, ILLEGAL, () -> x.rule(0));
        due("an undo brings the one before", "4 2 2", () -> {
            x.undo();
            int once = x.state(1);
            x.undo();
            int twice = x.state(1);
            x.undo();
            return once + " " + twice + " " + x.state(1);
        });
        SteadyQueues y = made("queue;push 0 1 2;");
        y.rule(4);
        y.push(2, 3);
        due("for versions that are made from now on", "2 0 4", () -> y.version(1, 8) + " " + y.version(2, 8) + " " + y.version(3, 8));
        y.rule(2);
        due("those that are made stay", "3 0 0 0 4", () -> settled(y, 3));
    }

    // ---------------------------------------------------------------- Promises 21 and 22

    private static void undoEach() {
        SteadyQueues x = new SteadyQueues();
        long fresh = x.checksum();
        due("-1 if there was none to undo, and nothing changes", "-1 true", () -> x.undo() + " " + (x.checksum() == fresh));
        loaded(x, "queue;pace 3;push 0 1 2;");
        long load = x.checksum();
        x.push(2, 3);
        long push = x.checksum();
        x.pop(3);
        long pop = x.checksum();
        x.drop(4);
        long drop = x.checksum();
        x.rule(2);
        due("a rule is undone", "4 true", () -> x.undo() + " " + (x.checksum() == drop));
        due("a drop is undone", "3 true", () -> x.undo() + " " + (x.checksum() == pop));
        due("a pop is undone", "2 true", () -> x.undo() + " " + (x.checksum() == push));
        due("a push is undone", "1 true", () -> x.undo() + " " + (x.checksum() == load));
        due("a load is undone", "0 true", () -> x.undo() + " " + (x.checksum() == fresh));
        due("none any more", "-1 true 0", () -> x.undo() + " " + (x.checksum() == fresh) + " " + x.state(8));
        due("a load with an error is no change", "-2 -1", () -> loaded(x, "queue") + " " + x.undo());
    }

    private static void undoEight() {
        SteadyQueues x = new SteadyQueues();
        for (int i = 0; i < 8; i++) {
            x.push(i, i);
        }
        due("8 later ones are not made: the first one is not final", "8 7 6 5 4 3 2 1 0 -1 1", () ->
            x.state(8) + " " + x.undo() + " " + x.undo() + " " + x.undo() + " " + x.undo() + " " + x.undo()
            + " " + x.undo() + " " + x.undo() + " " + x.undo() + " " + x.undo() + " " + x.state(0));
        for (int i = 0; i < 9; i++) {
            x.push(i, i);
        }
        due("8 later ones: the first one is final", "8 7 6 5 4 3 2 1 0 -1 2", () ->
            x.state(8) + " " + x.undo() + " " + x.undo() + " " + x.undo() + " " + x.undo() + " " + x.undo()
            + " " + x.undo() + " " + x.undo() + " " + x.undo() + " " + x.undo() + " " + x.state(0));
    }

    private static void undoAndFinal() {
        SteadyQueues x = new SteadyQueues();
        for (int i = 0; i < 8; i++) {
            x.push(i, i);
        }
        x.undo();
        x.undo();
        x.undo();
        due("undone ones do not count: 5, then 8 again", "5 8", () -> {
            int before = x.state(8);
            x.rule(3);
            x.rule(3);
            x.rule(3);
            return before + " " + x.state(8);
        });
        for (int i = 0; i < 8; i++) {
            x.undo();
        }
        due("so the first one is not final", "1 2 0", () -> x.state(0) + " " + x.state(1) + " " + x.state(8));
        for (int i = 0; i < 9; i++) {
            x.push(i, i);
        }
        x.undo();
        x.push(8, 50);
        for (int i = 0; i < 8; i++) {
            x.undo();
        }
        due("a final one stays final, though a later one was undone", "-1 2 0", () -> x.undo() + " " + x.state(0) + " " + x.first(1));
        SteadyQueues wrap = new SteadyQueues();
        for (int i = 0; i < 40; i++) {
            wrap.rule(2 + i % 3);
        }
        due("far more than 8 changes: the 8 before, one by one", "4 3 2 4 3 2 4 3 3", () -> {
            StringBuilder paces = new StringBuilder();
            while (wrap.undo() >= 0) {
                paces.append(wrap.state(1)).append(' ');
            }
            return paces.append(wrap.state(1)).toString();
        });
    }

    private static void undoAffectsNeitherBufferNorOffset() {
        SteadyQueues x = made("queue;push 0 1;");
        due("an error for its offset", "-2 at 6", () -> loaded(x, "queue;%") + " at " + x.errorOffset());
        feed(x, "queue;push 0 1 2;");
        due("the error offset is not affected", "0 6", () -> x.undo() + " " + x.errorOffset());
        due("nor by an undo of nothing", "-1 6", () -> x.undo() + " " + x.errorOffset());
        due("the input buffer is not affected", 3, () -> x.load(17));
        due("the error offset of an undone load", "0 -1", () -> x.undo() + " " + x.errorOffset());
        due("the buffer that the undone load emptied stays empty", ILLEGAL, () -> x.load(1));
    }

    /** The checksum with unbounded numbers, cut to 64 bits at its end alone. */
    private static long cut(SteadyQueues x) {
        BigInteger sum = BigInteger.ZERO;
        BigInteger by = BigInteger.valueOf(31);
        for (int what = 0; what <= 9; what++) {
            sum = what == 8 ? sum : sum.multiply(by).add(BigInteger.valueOf(x.state(what)));
        }
        for (int version = 0; version < x.state(0); version++) {
            for (int what = 0; what <= 10; what++) {
                sum = sum.multiply(by).add(BigInteger.valueOf(x.version(version, what)));
            }
            for (int list = 0; list <= 6; list++) {
                for (int i = 0; x.value(version, list, i) >= 0; i++) {
                    sum = sum.multiply(by).add(BigInteger.valueOf(x.value(version, list, i)));
                }
                sum = list == 0 ? sum : sum.multiply(by).subtract(BigInteger.ONE);
            }
        }
        return sum.longValue();
    }

    private static void checksum() {
        SteadyQueues x = new SteadyQueues();
        due("wrapping around on overflow: a new object", cut(x), x::checksum);
        SteadyQueues one = made("queue;push 0 99;");
        due("wrapping around on overflow: one value", cut(one), one::checksum);
        SteadyQueues lists = made("queue;push 0 1 2 3 4 5 6 7 8;pop 7 1;");
        due("wrapping around on overflow: all kinds of lists", cut(lists), lists::checksum);
        SteadyQueues full = full();
        due("wrapping around on overflow: 64 versions", cut(full), full::checksum);
        long before = x.checksum();
        x.rule(2);
        due("state(8) does not count", "1 true", () -> x.state(8) + " " + (x.checksum() == before));
        feed(x, "queue;#");
        due("the input buffer does not count", before, x::checksum);
        due("the error offset does not count", "-2 true", () -> x.load(7) + " " + (x.checksum() == before));
        due("it changes nothing, asked twice", true, () -> full.checksum() == full.checksum());
    }

    public static void main(String[] args) {
        atMost512Calls();
        versions();
        noVersionIsDone();
        steps();
        settling();
        pops();
        aVersionWithValuesHasOneInItsFront();
        otherQueue();
        textOf500Bytes();
        numbersThatWrap();
        longestRuns();
        noOtherByteSeparates();
        statements();
        syntaxErrors();
        outOfRange();
        tooManyAndEmpty();
        severalErrors();
        everyRefusedCallChangesNothing();
        whichExceptionComesFirst();
        beforeTheFirstSuccessfulLoad();
        newObject();
        append();
        load();
        theTextEndsWithinTheBuffer();
        loadLeavesOrReplaces();
        errorOffset();
        state();
        version();
        value();
        first();
        find();
        alike();
        common();
        work();
        idleIn();
        gapRankedMeanSteps();
        push();
        pop();
        drop();
        rule();
        undoEach();
        undoEight();
        undoAndFinal();
        undoAffectsNeitherBufferNorOffset();
        checksum();
        System.out.println(wrong == 0 ? "all " + tests + " boundaries hold" : wrong + " of " + tests + " boundaries do not hold");
        if (wrong != 0) {
            System.exit(1);
        }
    }
}
