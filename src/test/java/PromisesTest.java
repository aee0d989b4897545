import java.util.NoSuchElementException;

/** Each promise of the document by calls whose answers are worked out by hand: ordinary, at the edges, and wrong ones. */
public final class PromisesTest {
    private static final String ILLEGAL = "IllegalArgumentException";
    private static final String INDEX = "IndexOutOfBoundsException";
    private static final String STATE = "IllegalStateException";
    private static final String NO_ELEMENT = "NoSuchElementException";
    private static final int MIN = Integer.MIN_VALUE;
    private static final int MAX = Integer.MAX_VALUE;
    private static int wrong = 0;

    interface Call {
        Object answer();
    }

    private static void due(String what, Object want, Call call) {
        String got;
        try {
            got = String.valueOf(call.answer());
        } catch (RuntimeException thrown) {
            got = thrown.getClass().getSimpleName();
        }
        if (!got.equals(String.valueOf(want))) {
            wrong++;
            System.out.println(what + " answered " + got + ", due is " + want);
        }
    }

    private static int feed(SteadyQueues x, String text) {
        byte[] bytes = new byte[(text.length() + 19) / 20 * 20];
        for (int i = 0; i < text.length(); i++) {
            bytes[i] = (byte) text.charAt(i);
        }
        int[] words = new int[bytes.length / 4];
        for (int i = 0; i < bytes.length; i++) {
            words[i / 4] = words[i / 4] << 8 | bytes[i] & 255;
        }
        int length = 0;
        for (int i = 0; i < words.length; i += 5) {
            length = x.append(words[i], words[i + 1], words[i + 2], words[i + 3], words[i + 4]);
        }
        return length;
    }

    private static int loaded(SteadyQueues x, String text) {
        feed(x, text);
        return x.load(text.length());
    }

    private static SteadyQueues made(String text) {
        SteadyQueues x = new SteadyQueues();
        if (loaded(x, text) < 0) {
            wrong++;
            System.out.println("not loaded: " + text);
        }
        return x;
    }

    private static String list(SteadyQueues x, int version, int list) {
        StringBuilder text = new StringBuilder();
        for (int i = 0; x.value(version, list, i) != -1; i++) {
            text.append(i == 0 ? "" : " ").append(x.value(version, list, i));
        }
        return text.toString();
    }

    private static String numbers(SteadyQueues x, int version) {
        StringBuilder text = new StringBuilder();
        for (int what = 0; what <= 10; what++) {
            text.append(what == 0 ? "" : " ").append(x.version(version, what));
        }
        return text.toString();
    }

    private static String states(SteadyQueues x) {
        StringBuilder text = new StringBuilder();
        for (int what = 0; what <= 9; what++) {
            text.append(what == 0 ? "" : " ").append(x.state(what));
        }
        return text.toString();
    }

    private static String values(int from, int to) {
        StringBuilder text = new StringBuilder();
        for (int i = from; i <= to; i++) {
            text.append(' ').append(i);
        }
        return text.toString();
    }

    private static void promise1NewObject() {
        SteadyQueues x = new SteadyQueues();
        due("1 states", "1 2 1 0 0 0 0 1 0 0", () -> states(x));
        due("1 version 0", "-1 -1 0 0 0 0 0 0 0 0 0", () -> numbers(x, 0));
        due("1 empty buffer", ILLEGAL, () -> x.load(1));
        due("1 nothing to undo", -1, x::undo);
        SteadyQueues y = made("queue;");
        due("1 as by the text", true, () -> x.checksum() == y.checksum());
    }

    private static void promise2Append() {
        SteadyQueues x = new SteadyQueues();
        for (int i = 1; i <= 25; i++) {
            int length = 20 * i;
            due("2 append " + i, length, () -> x.append(-1, 0, 0, 0, 0));
        }
        due("2 full", -1, () -> x.append(0, 0, 0, 0, 0));
        due("2 full, unchanged", ILLEGAL, () -> x.load(501));
        due("2 all 500 bytes are there", -2, () -> x.load(500));
        due("2 empty after load", 20, () -> x.append(0x71756575, 0x653b7075, 0x73682030, 0x2039393b, 0));
        due("2 the most significant byte first", 2, () -> x.load(16));
        due("2 value", "99", () -> list(x, 1, 0));
        SteadyQueues y = new SteadyQueues();
        StringBuilder spaces = new StringBuilder("queue;push 0 1");
        while (spaces.length() < 499) {
            spaces.append(' ');
        }
        due("2 500 bytes of a text", 2, () -> loaded(y, spaces.append(';').toString()));
    }

    private static void promise3Load() {
        SteadyQueues x = new SteadyQueues();
        due("3 empty text", -2, () -> x.load(0));
        due("3 empty text's offset", 0, x::errorOffset);
        feed(x, "queue;push 0 1;");
        due("3 negative", ILLEGAL, () -> x.load(-1));
        due("3 least", ILLEGAL, () -> x.load(MIN));
        due("3 too long", ILLEGAL, () -> x.load(21));
        due("3 greatest", ILLEGAL, () -> x.load(MAX));
        due("3 the buffer is unchanged", 2, () -> x.load(15));
        due("3 the buffer is empty afterwards", ILLEGAL, () -> x.load(1));
        feed(x, "queue;");
        due("3 error", -2, () -> x.load(4));
        due("3 the buffer is empty after an error", ILLEGAL, () -> x.load(1));
        due("3 other data after an error", "1", () -> list(x, 1, 0));
        due("3 an error is no change", 1, () -> x.state(8));
        due("3 only the first bytes", 1, () -> {
            feed(x, "queue;push 0 1;");
            return x.load(6);
        });
        SteadyQueues y = made("queue;pace 3;push 0 5 6;pop 2 1;push 1 7;");
        due("3 a tree", "5 3", () -> y.state(0) + " " + y.state(1));
        due("3 push", "5 6", () -> list(y, 2, 0));
        due("3 pop", "6", () -> list(y, 3, 0));
        due("3 push to an older one", "5 7", () -> list(y, 4, 0));
        due("3 parents", "1 2 1", () -> y.version(2, 0) + " " + y.version(3, 0) + " " + y.version(4, 0));
        y.drop(4);
        due("3 pace is 2 without its statement", 1, () -> loaded(y, "queue;"));
        due("3 all is replaced", "1 2 1 0 0 0 0 1 3 0", () -> states(y));
        due("3 an error leaves pace", "-5 2", () -> loaded(y, "queue;pace 4;pop 0 1;") + " " + y.state(1));
    }

    private static void error(String text, int code, int offset) {
        SteadyQueues x = made("queue;pace 4;push 0 8 9;");
        long before = x.checksum();
        due("4 load of '" + text + "'", code + " at " + offset, () -> loaded(x, text) + " at " + x.errorOffset());
        due("4 data after '" + text + "'", before, x::checksum);
    }

    private static void promise4ErrorOffset() {
        SteadyQueues x = new SteadyQueues();
        due("4 no call", -1, x::errorOffset);
        due("4 an exception", ILLEGAL, () -> x.load(1));
        due("4 behind an exception", -1, x::errorOffset);
        due("4 an error", "-2 at 3", () -> loaded(x, "que") == -2 ? "-2 at " + (x.errorOffset() + 3) : "");
        due("4 an exception", ILLEGAL, () -> x.load(1));
        due("4 an exception leaves it", 0, x::errorOffset);
        due("4 none", "1 -1", () -> loaded(x, "queue;") + " " + x.errorOffset());
        error("", -2, 0);
        error("   ", -2, 3);
        error("queue", -2, 5);
        error("queue  ", -2, 7);
        error("queues;", -2, 0);
        error("Queue;", -2, 0);
        error(";", -2, 0);
        error("queue push", -2, 6);
        error("queue;;", -2, 6);
        error("queue;queue;", -2, 6);
        error("queue;push", -2, 10);
        error("queue;push;", -2, 10);
        error("queue;push 0", -2, 12);
        error("queue;push 0 1", -2, 14);
        error("queue;push 0 1 pop", -2, 15);
        error("queue;pushpop 0 1;", -2, 6);
        error("queue;pushz 0 1;", -2, 6);
        error("queue;apush 0 1;", -2, 6);
        error("queue;push{0 1;", -2, 10);
        error("queue;push`0 1;", -2, 10);
        error("queue;push\t0 1;", -2, 10);
        error("queue;push 0 1;" + (char) 176, -2, 15);
        error("queue;push 0 1" + (char) 0, -2, 14);
        error("queue;push 0 -1;", -2, 13);
        error("queue;pop 0;", -2, 11);
        error("queue;push 0 1;pop 1 1 1;", -2, 23);
        error("queue;pace;", -2, 10);
        error("queue;pace 2 2;", -2, 13);
        error("queue;pace 3;pace 3;", -2, 13);
        error("queue;pace 3;pace 9;", -2, 13);
        error("queue;push 0 1;pace 3;", -2, 15);
        error("queue;push 0 1;pop 1 1; pace 3;", -2, 24);
        error("queue;5;", -2, 6);
        error("queue; 0push 0 1;", -2, 7);
        promise4OutOfRange();
        promise4TooManyAndEmpty();
    }

    private static void promise4OutOfRange() {
        error("queue;pace 1;", -3, 11);
        error("queue;pace 5;", -3, 11);
        error("queue;pace 0;", -3, 11);
        error("queue;pace 99999999999999999999999999999999999;", -3, 11);
        error("queue;pace 4294967298;", -3, 11);
        error("queue;push 1 1;", -3, 11);
        error("queue;push 1;", -3, 11);
        error("queue;push 0 5 6;push 3 7;", -3, 22);
        error("queue;push 0 100;", -3, 13);
        error("queue;push 0 99 0100 3;", -3, 16);
        error("queue;push 0 4294967296;", -3, 13);
        error("queue;push 18446744073709551616 1;", -3, 11);
        error("queue;pop 1 1;", -3, 10);
        error("queue;pop 0 0;", -3, 12);
        error("queue;pop 0 65;", -3, 12);
        error("queue;pop 0 00065", -3, 12);
        error("queue;push 0 1;pop 1 0 #", -3, 21);
        error("queue;pop 1000 1;", -3, 10);
        due("4 leading zeros", 3, () -> loaded(new SteadyQueues(), "queue;pace 0000000000002;push 000 00000000000000001 099;"));
        due("4 few spaces", 4, () -> loaded(new SteadyQueues(), "  queue;pace2;push0 1 2;pop2 1;"));
        due("4 many spaces", 4, () -> loaded(new SteadyQueues(), " queue ;  pace  2 ; push  0  1  2 ; pop  2  1 ;  "));
    }

    private static void promise4TooManyAndEmpty() {
        String all = "queue;push 0" + values(1, 63);
        due("4 just 64 versions", 64, () -> loaded(new SteadyQueues(), all + ";"));
        error(all + " 9;", -4, all.length() + 1);
        error(all + ";push 63 9", -4, all.length() + 9);
        error(all + ";push 63 100", -3, all.length() + 9);
        error(all + ";push 64 9", -3, all.length() + 6);
        error(all + ";push 63;", -2, all.length() + 8);
        error(all + ";pop 63 1;", -4, all.length() + 8);
        error(all + ";pop 0 1;", -4, all.length() + 7);
        error(all + ";pop 0 65;", -3, all.length() + 7);
        String half = "queue;push 0" + values(1, 31) + ";pop 31 ";
        due("4 pops up to 64 versions", 63, () -> loaded(new SteadyQueues(), half + "31;"));
        error(half + "32;", -5, half.length());
        error(half + "33;", -4, half.length());
        error(half + "64;", -4, half.length());
        error("queue;pop 0 1;", -5, 12);
        error("queue;pop 0 63;", -5, 12);
        error("queue;pop 0 64;", -4, 12);
        error("queue;push 0 1 2;pop 2 3;", -5, 23);
        error("queue;push 0 1 2;pop 2 2;pop 4 1", -5, 31);
        error("queue;push 0 1 2;pop 2 3", -5, 23);
    }

    private static void promise5State() {
        SteadyQueues x = made("queue;push 0 1 2 3 4 5 6 7;pop 7 1;push 1 9;");
        due("5 states", "10 2 2 3 8 10 2 1 1 0", () -> states(x));
        x.pop(1);
        due("5 without values", 2, () -> x.state(7));
        x.drop(9);
        due("5 dropped", "10 2 2 3 8 10 2 2 3 1", () -> states(x));
        due("5 dropped since the load", "1 2 1 0 0 0 0 1 4 0", () -> loaded(x, "queue;") == 1 ? states(x) : "");
        due("5 most steps", 4, () -> made("queue;pace 4;push 0 1 2 3;").state(6));
        due("5 negative", ILLEGAL, () -> x.state(-1));
        due("5 above", ILLEGAL, () -> x.state(10));
        due("5 least", ILLEGAL, () -> x.state(MIN));
        due("5 greatest", ILLEGAL, () -> x.state(MAX));
    }

    private static void promise6Version() {
        SteadyQueues x = made("queue;push 0 1 2 3 4 5 6 7;pop 7 1;pop 7 1;");
        due("6 version 0", "-1 -1 0 0 0 0 0 0 0 1 0", () -> numbers(x, 0));
        due("6 version 1", "0 1 1 1 1 0 0 0 2 1 1", () -> numbers(x, 1));
        due("6 version 2", "1 2 2 2 1 1 0 0 0 1 1", () -> numbers(x, 2));
        due("6 version 3", "2 3 3 3 3 0 2 1 2 1 1", () -> numbers(x, 3));
        due("6 version 4", "3 4 4 4 3 1 0 0 2 1 3", () -> numbers(x, 4));
        due("6 version 6", "5 6 6 6 3 3 0 0 0 1 3", () -> numbers(x, 6));
        due("6 version 7", "6 7 7 7 7 0 1 2 2 2 3", () -> numbers(x, 7));
        due("6 version 8", "7 -1 8 6 6 0 2 2 2 0 2", () -> numbers(x, 8));
        due("6 version 9", numbers(x, 8), () -> numbers(x, 9));
        due("6 a push of 0", 0, () -> made("queue;push 0 0;").version(1, 1));
        due("6 no version", INDEX, () -> x.version(10, 0));
        due("6 negative version", INDEX, () -> x.version(-1, 0));
        due("6 both wrong", INDEX, () -> x.version(MAX, 11));
        due("6 no number", ILLEGAL, () -> x.version(0, 11));
        due("6 negative number", ILLEGAL, () -> x.version(9, -1));
    }

    private static void promise7Value() {
        SteadyQueues x = made("queue;push 0 1 2 3 4 5 6 7 8;pop 7 1;");
        due("7 values, reversing", "1 2 3 4 5 6 7", () -> list(x, 7, 0));
        due("7 front", "1 2 3", () -> list(x, 7, 1));
        due("7 rear", "", () -> list(x, 7, 2));
        due("7 old front", "3", () -> list(x, 7, 3));
        due("7 new front", "2 1", () -> list(x, 7, 4));
        due("7 old rear", "5 4", () -> list(x, 7, 5));
        due("7 new rear", "6 7", () -> list(x, 7, 6));
        due("7 values, appending", "1 2 3 4 5 6 7 8", () -> list(x, 8, 0));
        due("7 all its lists", "1 2 3/8//3 2 1//4 5 6 7", () ->
            list(x, 8, 1) + "/" + list(x, 8, 2) + "/" + list(x, 8, 3) + "/" + list(x, 8, 4) + "/" + list(x, 8, 5) + "/" + list(x, 8, 6));
        due("7 values, appending after a pop", "2 3 4 5 6 7", () -> list(x, 9, 0));
        due("7 its lists", "2 3//3 2 1/4 5 6 7", () -> list(x, 9, 1) + "/" + list(x, 9, 2) + "/" + list(x, 9, 4) + "/" + list(x, 9, 6));
        due("7 values, idle", "1 2 3 4 5 6", () -> list(x, 6, 0));
        due("7 rear from the last pushed", "6 5 4", () -> list(x, 6, 2));
        due("7 no lists of an idle turn", "///", () -> list(x, 6, 3) + "/" + list(x, 6, 4) + "/" + list(x, 6, 5) + "/" + list(x, 6, 6));
        due("7 negative place", -1, () -> x.value(6, 0, -1));
        due("7 negative place of a list", -1, () -> x.value(6, 1, -1));
        due("7 least place", -1, () -> x.value(6, 2, MIN));
        due("7 place behind", -1, () -> x.value(6, 0, 6));
        due("7 greatest place", -1, () -> x.value(6, 0, MAX));
        due("7 place behind a list", -1, () -> x.value(6, 1, 3));
        due("7 no version", INDEX, () -> x.value(10, 7, 0));
        due("7 negative version", INDEX, () -> x.value(-1, 0, 0));
        due("7 no list", ILLEGAL, () -> x.value(0, 7, -1));
        due("7 negative list", ILLEGAL, () -> x.value(0, -1, 0));
        SteadyQueues full = made("queue;push 0" + values(1, 63) + ";");
        due("7 63 values", values(1, 63).substring(1), () -> list(full, 63, 0));
    }

    private static void promise8First() {
        SteadyQueues x = made("queue;push 0 7 8 9;pop 3 3;");
        due("8 first", "7 7 7 8 9", () -> x.first(1) + " " + x.first(2) + " " + x.first(3) + " " + x.first(4) + " " + x.first(5));
        due("8 none", NO_ELEMENT, () -> x.first(0));
        due("8 none left", NO_ELEMENT, () -> x.first(6));
        due("8 no version", INDEX, () -> x.first(7));
        due("8 negative version", INDEX, () -> x.first(-1));
    }

    private static void promise9Find() {
        SteadyQueues x = made("queue;push 0 5 6 5 7 6;pop 5 1;");
        due("9 first place", "0 1 3", () -> x.find(5, 5) + " " + x.find(5, 6) + " " + x.find(5, 7));
        due("9 after a pop", "1 0", () -> x.find(6, 5) + " " + x.find(6, 6));
        due("9 none", -1, () -> x.find(5, 8));
        due("9 any number", "-1 -1 -1", () -> x.find(5, -1) + " " + x.find(5, MIN) + " " + x.find(5, MAX));
        due("9 of an empty one", -1, () -> x.find(0, 0));
        due("9 no version", INDEX, () -> x.find(7, 5));
        due("9 negative version", INDEX, () -> x.find(-1, 5));
    }

    private static void promise10Alike() {
        SteadyQueues x = made("queue;push 0 1 2 3 4;pop 4 4;push 0 1;push 8 9;pop 4 1;push 0 4 3;push 4 4;pop 4 3;");
        due("10 empty ones", true, () -> x.alike(0, 8));
        due("10 itself", true, () -> x.alike(4, 4));
        due("10 one value, made otherwise", false, () -> x.alike(1, 10));
        due("10 the same values", true, () -> x.alike(5, 11));
        due("10 other lists", "true true", () -> x.alike(1, 9) + " " + x.alike(9, 1));
        due("10 other length", "false false", () -> x.alike(3, 4) + " " + x.alike(4, 3));
        due("10 other order", false, () -> x.alike(6, 13));
        due("10 no version", INDEX, () -> x.alike(18, 0));
        due("10 no other", INDEX, () -> x.alike(0, 18));
        due("10 negative other", INDEX, () -> x.alike(0, -1));
        due("10 negative version", INDEX, () -> x.alike(-1, 0));
    }

    private static void promise11Common() {
        SteadyQueues x = made("queue;push 0 1 2 3;pop 2 2;push 1 5;push 0 6;");
        due("11 itself", 3, () -> x.common(3, 3));
        due("11 siblings", "2 2", () -> x.common(3, 4) + " " + x.common(5, 3));
        due("11 an ancestor", "2 2", () -> x.common(2, 5) + " " + x.common(5, 2));
        due("11 further", "1 1", () -> x.common(6, 5) + " " + x.common(3, 6));
        due("11 version 0", "0 0", () -> x.common(7, 5) + " " + x.common(0, 3));
        x.drop(3);
        due("11 indexes after a drop", "2 1", () -> x.common(4, 3 - 1) + " " + x.common(5, 4));
        due("11 no version", INDEX, () -> x.common(7, 0));
        due("11 no other", INDEX, () -> x.common(0, 7));
        due("11 negative version", INDEX, () -> x.common(-1, 0));
        due("11 negative other", INDEX, () -> x.common(0, -1));
    }

    private static String works(SteadyQueues x, int version) {
        return x.work(version, 0) + " " + x.work(version, 1) + " " + x.work(version, 2) + " " + x.work(version, 3);
    }

    private static void promise12Work() {
        SteadyQueues x = made("queue;push 0 1 2 3 4;pop 4 1;push 5 5;pop 6 4;push 1 9;");
        due("12 version 0", "0 0 0 0", () -> works(x, 0));
        due("12 one push", "2 2 1 1", () -> works(x, 1));
        due("12 four pushes", "6 2 4 1", () -> works(x, 4));
        due("12 a pop that turns", "6 2 9 5", () -> works(x, 5));
        due("12 a push behind", "6 2 10 5", () -> works(x, 6));
        due("12 pops of its front", "2 12 5", () -> x.work(8, 1) + " " + x.work(8, 2) + " " + x.work(8, 3));
        due("12 turns again", "15 5", () -> x.work(10, 2) + " " + x.work(10, 3));
        due("12 the way alone", "2 2 2 1", () -> works(x, 11));
        SteadyQueues y = made("queue;pace 4;push 0 1 2 3;");
        due("12 with pace 4", "6 4 3 1", () -> works(y, 3));
        due("12 no version", INDEX, () -> x.work(12, 4));
        due("12 negative version", INDEX, () -> x.work(-1, 0));
        due("12 no number", ILLEGAL, () -> x.work(0, 4));
        due("12 negative number", ILLEGAL, () -> x.work(11, -1));
    }

    private static void promise13IdleIn() {
        SteadyQueues x = made("queue;push 0 1 2 3 4 5 6 7;pop 7 1;push 7 8 9;");
        due("13 idle", "0 0 0", () -> x.idleIn(0) + " " + x.idleIn(1) + " " + x.idleIn(6));
        due("13 appending", "1 1 1", () -> x.idleIn(3) + " " + x.idleIn(8) + " " + x.idleIn(10));
        due("13 reversing", 2, () -> x.idleIn(7));
        due("13 nothing is made", 11, () -> x.state(0));
        SteadyQueues y = made("queue;push 0" + values(1, 63) + ";");
        due("13 with 64 versions", "1 2 1 5 21", () ->
            y.idleIn(3) + " " + y.idleIn(7) + " " + y.idleIn(9) + " " + y.idleIn(15) + " " + y.idleIn(63));
        y.rule(4);
        due("13 by the pace of now", 3, () -> y.idleIn(15));
        due("13 no version", INDEX, () -> x.idleIn(11));
        due("13 negative version", INDEX, () -> x.idleIn(-1));
    }

    private static void promise14Gap() {
        SteadyQueues x = made("queue;push 0" + values(1, 40) + ";pop 31 23;");
        due("14 none", 0, x::gap);
        x.rule(4);
        x.drop(63);
        x.push(62, 3);
        due("14 none after changes", 0, x::gap);
        due("14 none of a new one", 0, () -> new SteadyQueues().gap());
    }

    private static void promise15Ranked() {
        SteadyQueues x = made("queue;push 0 1 2 3;pop 3 2;push 1 9;");
        StringBuilder ranks = new StringBuilder();
        for (int i = 0; i < 7; i++) {
            ranks.append(x.ranked(i)).append(' ');
        }
        due("15 lengths 0 1 2 3 2 1 2", "3 2 4 6 1 5 0 ", ranks::toString);
        due("15 behind", NO_ELEMENT, () -> x.ranked(7));
        due("15 negative", NO_ELEMENT, () -> x.ranked(-1));
        due("15 least", NO_ELEMENT, () -> x.ranked(MIN));
        due("15 greatest", NO_ELEMENT, () -> x.ranked(MAX));
    }

    private static void promise16MeanSteps() {
        due("16 none", 0.0f, () -> new SteadyQueues().meanSteps());
        due("16 one", 2.0f, () -> made("queue;push 0 1;").meanSteps());
        due("16 three", 4.0f / 3.0f, () -> made("queue;push 0 1 2 3;").meanSteps());
        due("16 seven", 8.0f / 7.0f, () -> made("queue;push 0 1 2 3 4 5 6 7;").meanSteps());
    }

    private static void promise17Push() {
        SteadyQueues x = new SteadyQueues();
        due("17 new versions", "1 2 3", () -> x.push(0, 0) + " " + x.push(1, 99) + " " + x.push(0, 50));
        due("17 the old ones last", "/0/0 99/50", () -> list(x, 0, 0) + "/" + list(x, 1, 0) + "/" + list(x, 2, 0) + "/" + list(x, 3, 0));
        due("17 no version", INDEX, () -> x.push(4, 100));
        due("17 negative version", INDEX, () -> x.push(-1, 1));
        due("17 too great", ILLEGAL, () -> x.push(0, 100));
        due("17 negative", ILLEGAL, () -> x.push(0, -1));
        due("17 nothing was made", "4 3", () -> x.state(0) + " " + x.state(8));
        for (int i = 4; i < 64; i++) {
            x.push(i - 1, i);
        }
        due("17 64 versions", STATE, () -> x.push(63, 1));
        due("17 64 versions, and a wrong value", ILLEGAL, () -> x.push(63, 100));
        due("17 64 versions, and no version", INDEX, () -> x.push(64, 100));
        x.drop(63);
        due("17 room again", 63, () -> x.push(0, 1));
    }

    private static void promise18Pop() {
        SteadyQueues x = made("queue;push 0 1 2;");
        due("18 new versions", "3 4", () -> x.pop(2) + " " + x.pop(3));
        due("18 the old ones last", "1 2/2/", () -> list(x, 2, 0) + "/" + list(x, 3, 0) + "/" + list(x, 4, 0));
        due("18 of none", STATE, () -> x.pop(4));
        due("18 of version 0", STATE, () -> x.pop(0));
        due("18 no version", INDEX, () -> x.pop(5));
        due("18 negative version", INDEX, () -> x.pop(-1));
        due("18 nothing was made", "5 3", () -> x.state(0) + " " + x.state(8));
        SteadyQueues y = made("queue;push 0" + values(1, 63) + ";");
        due("18 64 versions", STATE, () -> y.pop(63));
        y.drop(63);
        due("18 room", 63, () -> y.pop(3));
        due("18 an appending turn", "2 3", () -> list(y, 63, 0));
        due("18 it is done", "3 -1 4 2 2 0 0 0 1 0 2", () -> numbers(y, 63));
        SteadyQueues z = made("queue;pace 3;push 0 1 2 3;pop 3 1;");
        due("18 a turn done by the pop itself", "3 -1 4 2 2 0 0 0 0 0 2", () -> numbers(z, 4));
    }

    private static void promise19Drop() {
        SteadyQueues x = made("queue;push 0 1 2;push 1 3 4;");
        due("19 version 0", STATE, () -> x.drop(0));
        due("19 with children", STATE, () -> x.drop(1));
        due("19 with a child", STATE, () -> x.drop(3));
        due("19 no version", INDEX, () -> x.drop(5));
        due("19 negative version", INDEX, () -> x.drop(-1));
        due("19 no change", 1, () -> x.state(8));
        due("19 the versions then", 4, () -> x.drop(2));
        due("19 less by 1", "1 3/1 3 4", () -> list(x, 2, 0) + "/" + list(x, 3, 0));
        due("19 parents", "0 1 2", () -> x.version(1, 0) + " " + x.version(2, 0) + " " + x.version(3, 0));
        due("19 the last one", 3, () -> x.drop(3));
        due("19 it was childless then", 2, () -> x.drop(2));
        due("19 and so on", "1 4", () -> x.drop(1) + " " + x.state(9));
        due("19 a lone version 0", STATE, () -> x.drop(0));
        due("19 a new one behind", 1, () -> x.push(0, 9));
    }

    private static void promise20Rule() {
        SteadyQueues x = made("queue;push 0 1 2;");
        due("20 the one before", "2 4 3", () -> x.rule(4) + " " + x.rule(3) + " " + x.rule(3));
        due("20 same pace is a change", 4, () -> x.state(8));
        due("20 too small", ILLEGAL, () -> x.rule(1));
        due("20 too great", ILLEGAL, () -> x.rule(5));
        due("20 negative", ILLEGAL, () -> x.rule(-2));
        due("20 no change", "3 4", () -> x.state(1) + " " + x.state(8));
        x.push(2, 3);
        due("20 from now on", "3 0 2", () -> x.version(3, 8) + " " + x.version(3, 7) + " " + x.version(3, 6));
        x.rule(4);
        x.push(2, 3);
        due("20 old ones stay", "3 4 0", () -> x.version(3, 8) + " " + x.version(4, 8) + " " + x.version(4, 6));
    }

    private static void promise21Undo() {
        SteadyQueues x = made("queue;push 0 1;");
        x.rule(3);
        x.push(1, 2);
        x.pop(2);
        x.drop(3);
        due("21 a drop", "4 4", () -> x.undo() + " " + x.state(0));
        due("21 a pop, a push", "3 2 2", () -> x.undo() + " " + x.undo() + " " + x.state(0));
        due("21 a rule", "1 2", () -> x.undo() + " " + x.state(1));
        feed(x, "queue;push 0 1;");
        due("21 a load", "0 1", () -> x.undo() + " " + x.state(0));
        due("21 nothing", "-1 1", () -> x.undo() + " " + x.state(0));
        due("21 the buffer is not affected", 2, () -> x.load(15));
        due("21 the error offset is not affected", "-2 0 6", () -> loaded(x, "queue;5") + " " + x.undo() + " " + x.errorOffset());
        for (int i = 0; i < 12; i++) {
            x.rule(2 + i % 3);
        }
        due("21 eight at most", 8, () -> x.state(8));
        due("21 a failing load spoils none", "-5", () -> loaded(x, "queue;pace 2;push 0 1 2;pop 2 3;"));
        due("21 eight of them", "7 6 5 4 3 2 1 0 -1", () -> x.undo() + " " + x.undo() + " " + x.undo() + " " + x.undo()
            + " " + x.undo() + " " + x.undo() + " " + x.undo() + " " + x.undo() + " " + x.undo());
        due("21 back to the fourth", "2 1", () -> x.state(1) + " " + x.state(0));
        promise21MoreOfUndo();
    }

    private static void promise21MoreOfUndo() {
        SteadyQueues x = new SteadyQueues();
        for (int i = 0; i < 8; i++) {
            x.push(i, i);
        }
        long eight = x.checksum();
        x.undo();
        x.push(7, 50);
        due("21 a new change in place of an undone one", 8, () -> x.state(8));
        for (int i = 7; i >= 0; i--) {
            int left = i;
            due("21 down to " + i, left, x::undo);
            due("21 versions " + i, left + 1, () -> x.state(0));
        }
        due("21 a new object again", new SteadyQueues().checksum(), x::checksum);
        for (int i = 0; i < 8; i++) {
            x.push(i, i);
        }
        due("21 the same data", eight, x::checksum);
        loaded(x, "queue;pace 4;");
        x.undo();
        due("21 a load that replaced all", eight, x::checksum);
        due("21 an exception is no change", STATE + " 7", () -> {
            try {
                return x.drop(3);
            } catch (IllegalStateException thrown) {
                return thrown.getClass().getSimpleName() + " " + x.state(8);
            }
        });
    }

    /** The checksum by what the other methods tell. */
    private static long summed(SteadyQueues x) {
        long sum = 0;
        for (int what = 0; what <= 9; what++) {
            sum = what == 8 ? sum : 31 * sum + x.state(what);
        }
        for (int version = 0; version < x.state(0); version++) {
            for (int what = 0; what <= 10; what++) {
                sum = 31 * sum + x.version(version, what);
            }
            for (int list = 0; list <= 6; list++) {
                for (int i = 0; x.value(version, list, i) >= 0; i++) {
                    sum = 31 * sum + x.value(version, list, i);
                }
                sum = list == 0 ? sum : 31 * sum - 1;
            }
        }
        return sum;
    }

    private static void promise22Checksum() {
        // states 1 2 1 0 0 0 0 1 0, then -1 -1 0 0 0 0 0 0 0 0 0, then six times -1
        long sum = 0;
        int[] numbers = {1, 2, 1, 0, 0, 0, 0, 1, 0, -1, -1, 0, 0, 0, 0, 0, 0, 0, 0, 0, -1, -1, -1, -1, -1, -1};
        for (int number : numbers) {
            sum = 31 * sum + number;
        }
        long wanted = sum;
        due("22 of a new object", wanted, () -> new SteadyQueues().checksum());
        SteadyQueues x = made("queue;push 0 1 2 3 4 5 6 7 8;pop 7 1;push 1 9;");
        due("22 of some versions", summed(x), x::checksum);
        x.rule(3);
        x.drop(9);
        due("22 after changes", summed(x), x::checksum);
        due("22 changes that can be undone do not count", true, () -> {
            long before = x.checksum();
            x.rule(3);
            return before == x.checksum();
        });
        SteadyQueues y = made("queue;push 0" + values(1, 63) + ";");
        due("22 of 64 versions", summed(y), y::checksum);
    }

    public static void main(String[] args) {
        promise1NewObject();
        promise2Append();
        promise3Load();
        promise4ErrorOffset();
        promise5State();
        promise6Version();
        promise7Value();
        promise8First();
        promise9Find();
        promise10Alike();
        promise11Common();
        promise12Work();
        promise13IdleIn();
        promise14Gap();
        promise15Ranked();
        promise16MeanSteps();
        promise17Push();
        promise18Pop();
        promise19Drop();
        promise20Rule();
        promise21Undo();
        promise22Checksum();
        System.out.println(wrong == 0 ? "all answers are as due" : wrong + " answers are not as due");
        if (wrong != 0) {
            System.exit(1);
        }
    }
}
