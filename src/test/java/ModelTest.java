import java.math.BigInteger;
import java.util.ArrayDeque;
import java.util.ArrayList;
import java.util.List;
import java.util.NoSuchElementException;
import java.util.regex.Matcher;
import java.util.regex.Pattern;

/** Long runs of calls, compared call by call with a plain model that copies whole lists as the document words it. */
public final class ModelTest {
    private static final int RUNS = 600;
    private static long seed = 20261120;
    private static int wrong = 0;

    private static int upTo(int bound) {
        seed = seed * 6364136223846793005L + 1442695040888963407L;
        return (int) ((seed >>> 33) % bound);
    }

    /** A version of the model. */
    private static final class Queue {
        Queue parent;
        int pushed = -1;
        int frontLength;
        int rearLength;
        int kind;
        int ok;
        int steps;
        List<Integer> front = List.of();
        List<Integer> rear = List.of();
        List<Integer> oldFront = List.of();
        List<Integer> newFront = List.of();
        List<Integer> oldRear = List.of();
        List<Integer> newRear = List.of();

        static Queue of(Queue from, int value, int pace) {
            Queue made = new Queue();
            made.parent = from;
            made.pushed = value;
            made.frontLength = from.frontLength;
            made.rearLength = from.rearLength;
            made.kind = from.kind;
            made.ok = from.ok;
            made.front = from.front;
            made.rear = from.rear;
            made.oldFront = from.oldFront;
            made.newFront = from.newFront;
            made.oldRear = from.oldRear;
            made.newRear = from.newRear;
            if (value >= 0) {
                made.rear = ahead(value, made.rear);
                made.rearLength++;
            } else {
                made.loseFirst();
            }
            made.settle(pace);
            return made;
        }

        private void loseFirst() {
            front = rest(front);
            frontLength--;
            if (kind == 1) {
                ok--;
            } else if (kind == 2 && ok > 0) {
                ok--;
            } else if (kind == 2) {
                kind = 3;
                newRear = rest(newRear);
            }
        }

        private void settle(int pace) {
            if (rearLength > frontLength) {
                if (kind != 0) {
                    throw new IllegalStateException("a turn begins while another one goes on");
                }
                kind = 1;
                ok = 0;
                oldFront = front;
                newFront = List.of();
                oldRear = rear;
                newRear = List.of();
                frontLength += rearLength;
                rearLength = 0;
                rear = List.of();
            }
            for (int i = 0; i < pace && kind != 3; i++) {
                step();
            }
            if (kind == 3) {
                front = newRear;
                kind = 0;
                ok = 0;
                oldFront = List.of();
                newFront = List.of();
                oldRear = List.of();
                newRear = List.of();
            }
        }

        private void step() {
            if (kind == 1 && !oldFront.isEmpty() && !oldRear.isEmpty()) {
                newFront = ahead(oldFront.get(0), newFront);
                newRear = ahead(oldRear.get(0), newRear);
                oldFront = rest(oldFront);
                oldRear = rest(oldRear);
                ok++;
                steps++;
            } else if (kind == 1 && oldFront.isEmpty() && oldRear.size() == 1) {
                newRear = ahead(oldRear.get(0), newRear);
                oldRear = List.of();
                kind = 2;
                steps++;
            } else if (kind == 2 && ok == 0) {
                kind = 3;
                steps++;
            } else if (kind == 2 && ok > 0) {
                newRear = ahead(newFront.get(0), newRear);
                newFront = rest(newFront);
                ok--;
                steps++;
            }
        }

        List<Queue> way() {
            ArrayList<Queue> way = new ArrayList<>();
            for (Queue on = this; on.parent != null; on = on.parent) {
                way.add(0, on);
            }
            return way;
        }

        List<Integer> values() {
            ArrayDeque<Integer> values = new ArrayDeque<>();
            for (Queue on : way()) {
                if (on.pushed >= 0) {
                    values.addLast(on.pushed);
                }
            }
            for (Queue on : way()) {
                if (on.pushed < 0) {
                    values.removeFirst();
                }
            }
            return new ArrayList<>(values);
        }

        List<Integer> list(int list) {
            switch (list) {
                case 0: return values();
                case 1: return front;
                case 2: return rear;
                case 3: return oldFront;
                case 4: return newFront;
                case 5: return oldRear;
                default: return newRear;
            }
        }

        int work(int what) {
            int sum = 0;
            int most = 0;
            int otherSum = 0;
            int otherMost = 0;
            ArrayDeque<Integer> otherFront = new ArrayDeque<>();
            ArrayDeque<Integer> otherRear = new ArrayDeque<>();
            for (Queue on : way()) {
                sum += on.steps;
                most = Math.max(most, on.steps);
                int now = 1;
                if (on.pushed >= 0) {
                    otherRear.addFirst(on.pushed);
                } else {
                    while (otherFront.isEmpty() || !otherRear.isEmpty() && now > 1) {
                        otherFront.addFirst(otherRear.removeFirst());
                        now++;
                    }
                    otherFront.removeFirst();
                }
                otherSum += now;
                otherMost = Math.max(otherMost, now);
            }
            return new int[] {sum, most, otherSum, otherMost}[what];
        }

        private static List<Integer> ahead(int value, List<Integer> list) {
            ArrayList<Integer> longer = new ArrayList<>();
            longer.add(value);
            longer.addAll(list);
            return longer;
        }

        private static List<Integer> rest(List<Integer> list) {
            return list.subList(1, list.size());
        }
    }

    /** The model of an object. */
    private static final class Model {
        ArrayList<Queue> queues = new ArrayList<>(List.of(new Queue()));
        int pace = 2;
        int dropped;
        int offset = -1;
        ArrayDeque<Object[]> past = new ArrayDeque<>();

        Queue at(int version) {
            if (version < 0 || version >= queues.size()) {
                throw new IndexOutOfBoundsException();
            }
            return queues.get(version);
        }

        private void remember() {
            past.addLast(new Object[] {new ArrayList<>(queues), pace, dropped});
            if (past.size() > 8) {
                past.removeFirst();
            }
        }

        @SuppressWarnings("unchecked")
        int undo() {
            if (past.isEmpty()) {
                return -1;
            }
            Object[] before = past.removeLast();
            queues = (ArrayList<Queue>) before[0];
            pace = (Integer) before[1];
            dropped = (Integer) before[2];
            return past.size();
        }

        int push(int version, int value) {
            Queue from = at(version);
            if (value < 0 || value > 99) {
                throw new IllegalArgumentException();
            }
            return make(from, value);
        }

        int pop(int version) {
            Queue from = at(version);
            if (from.values().isEmpty()) {
                throw new IllegalStateException();
            }
            return make(from, -1);
        }

        private int make(Queue from, int value) {
            if (queues.size() == 64) {
                throw new IllegalStateException();
            }
            remember();
            queues.add(Queue.of(from, value, pace));
            return queues.size() - 1;
        }

        int children(Queue parent) {
            return (int) queues.stream().filter(one -> one.parent == parent).count();
        }

        int drop(int version) {
            Queue one = at(version);
            if (version == 0 || children(one) > 0) {
                throw new IllegalStateException();
            }
            remember();
            queues.remove(version);
            dropped++;
            return queues.size();
        }

        int rule(int to) {
            if (to < 2 || to > 4) {
                throw new IllegalArgumentException();
            }
            remember();
            int before = pace;
            pace = to;
            return before;
        }

        int state(int what) {
            switch (what) {
                case 0: return queues.size();
                case 1: return pace;
                case 2: return (int) queues.stream().filter(one -> children(one) == 0).count();
                case 3: return (int) queues.stream().filter(one -> one.kind != 0).count();
                case 4: return queues.stream().mapToInt(one -> one.way().size()).max().getAsInt();
                case 5: return queues.stream().mapToInt(one -> one.steps).sum();
                case 6: return queues.stream().mapToInt(one -> one.steps).max().getAsInt();
                case 7: return (int) queues.stream().filter(one -> one.values().isEmpty()).count();
                case 8: return past.size();
                case 9: return dropped;
                default: throw new IllegalArgumentException();
            }
        }

        int version(int version, int what) {
            Queue one = at(version);
            switch (what) {
                case 0: return queues.indexOf(one.parent);
                case 1: return one.pushed;
                case 2: return one.way().size();
                case 3: return one.values().size();
                case 4: return one.frontLength;
                case 5: return one.rearLength;
                case 6: return one.kind;
                case 7: return one.ok;
                case 8: return one.steps;
                case 9: return children(one);
                case 10: return one.front.size();
                default: throw new IllegalArgumentException();
            }
        }

        int value(int version, int list, int place) {
            Queue one = at(version);
            if (list < 0 || list > 6) {
                throw new IllegalArgumentException();
            }
            List<Integer> values = one.list(list);
            return place >= 0 && place < values.size() ? values.get(place) : -1;
        }

        int first(int version) {
            List<Integer> values = at(version).values();
            if (values.isEmpty()) {
                throw new NoSuchElementException();
            }
            return values.get(0);
        }

        int common(int version, int other) {
            ArrayList<Queue> one = new ArrayList<>(at(version).way());
            ArrayList<Queue> another = new ArrayList<>(at(other).way());
            one.retainAll(another);
            return one.isEmpty() ? 0 : queues.indexOf(one.get(one.size() - 1));
        }

        int work(int version, int what) {
            Queue one = at(version);
            if (what < 0 || what > 3) {
                throw new IllegalArgumentException();
            }
            return one.work(what);
        }

        int idleIn(int version) {
            Queue one = at(version);
            int length = one.values().size();
            for (int pops = 0; pops <= length; pops++) {
                if (one.kind == 0) {
                    return pops;
                }
                one = pops < length ? Queue.of(one, -1, pace) : one;
            }
            return -1;
        }

        int ranked(int place) {
            ArrayList<Integer> indexes = new ArrayList<>();
            for (int i = 0; i < queues.size(); i++) {
                indexes.add(i);
            }
            indexes.sort((a, b) -> queues.get(b).values().size() - queues.get(a).values().size());
            if (place < 0 || place >= indexes.size()) {
                throw new NoSuchElementException();
            }
            return indexes.get(place);
        }

        float meanSteps() {
            return queues.size() == 1 ? 0 : (float) state(5) / (float) (queues.size() - 1);
        }

        long checksum() {
            long sum = 0;
            for (int what = 0; what <= 9; what++) {
                sum = what == 8 ? sum : 31 * sum + state(what);
            }
            for (int i = 0; i < queues.size(); i++) {
                for (int what = 0; what <= 10; what++) {
                    sum = 31 * sum + version(i, what);
                }
                for (int list = 0; list <= 6; list++) {
                    for (int value : queues.get(i).list(list)) {
                        sum = 31 * sum + value;
                    }
                    sum = list == 0 ? sum : 31 * sum - 1;
                }
            }
            return sum;
        }

        int load(String text) {
            Model fresh = new Model();
            int error = new Text(text, fresh).read();
            offset = error < 0 ? fresh.offset : -1;
            if (error < 0) {
                return error;
            }
            remember();
            queues = fresh.queues;
            pace = fresh.pace;
            dropped = 0;
            return queues.size();
        }
    }

    /** Reads a setup text by all its tokens, taken apart beforehand. */
    private static final class Text {
        private static final Pattern TOKEN = Pattern.compile("[a-z]+|[0-9]+|[^ ]", Pattern.DOTALL);
        private final ArrayList<String> tokens = new ArrayList<>();
        private final ArrayList<Integer> offsets = new ArrayList<>();
        private final Model into;
        private int next = 0;

        Text(String text, Model into) {
            this.into = into;
            Matcher matcher = TOKEN.matcher(text);
            while (matcher.find()) {
                tokens.add(matcher.group());
                offsets.add(matcher.start());
            }
            tokens.add("");
            offsets.add(text.length());
        }

        private static final class Stop extends RuntimeException {
            private static final long serialVersionUID = 1;
            final int code;

            Stop(int code) {
                this.code = code;
            }
        }

        private Stop stop(int code) {
            into.offset = offsets.get(next);
            return new Stop(code);
        }

        private boolean numberNext() {
            return tokens.get(next).matches("[0-9]+");
        }

        private int number(int least, int most) {
            if (!numberNext()) {
                throw stop(-2);
            }
            BigInteger number = new BigInteger(tokens.get(next));
            if (number.compareTo(BigInteger.valueOf(least)) < 0 || number.compareTo(BigInteger.valueOf(most)) > 0) {
                throw stop(-3);
            }
            return number.intValue();
        }

        private void word(String word) {
            if (!tokens.get(next).equals(word)) {
                throw stop(-2);
            }
            next++;
        }

        int read() {
            try {
                word("queue");
                word(";");
                boolean paced = false;
                while (!tokens.get(next).isEmpty()) {
                    String word = tokens.get(next);
                    if (!word.equals("push") && !word.equals("pop") && !(word.equals("pace") && !paced)) {
                        throw stop(-2);
                    }
                    paced = true;
                    next++;
                    statement(word);
                    word(";");
                }
                return 0;
            } catch (Stop stop) {
                return stop.code;
            }
        }

        private void statement(String word) {
            if (word.equals("pace")) {
                into.pace = number(2, 4);
                next++;
                return;
            }
            int version = number(0, into.queues.size() - 1);
            next++;
            if (word.equals("pop")) {
                int pops = number(1, 64);
                if (into.queues.size() + pops > 64) {
                    throw stop(-4);
                }
                if (pops > into.at(version).values().size()) {
                    throw stop(-5);
                }
                for (int i = 0; i < pops; i++) {
                    version = into.pop(version);
                }
                next++;
                return;
            }
            do {
                int value = number(0, 99);
                if (into.queues.size() == 64) {
                    throw stop(-4);
                }
                version = into.push(version, value);
                next++;
            } while (numberNext());
        }
    }

    interface Call {
        Object answer();
    }

    private static String told(Call call) {
        try {
            return String.valueOf(call.answer());
        } catch (RuntimeException thrown) {
            return thrown.getClass().getSimpleName();
        }
    }

    private static void same(String what, Call got, Call want) {
        String is = told(got);
        String due = told(want);
        if (!is.equals(due)) {
            wrong++;
            if (wrong < 20) {
                System.out.println(what + " answered " + is + ", due is " + due);
            }
        }
    }

    private static String randomText() {
        StringBuilder text = new StringBuilder("queue;");
        int count = 1;
        if (upTo(3) > 0) {
            text.append("pace ").append(2 + upTo(3)).append(';');
        }
        for (int i = upTo(12); i >= 0; i--) {
            int from = upTo(3) == 0 ? upTo(count) : count - 1;
            boolean pushes = upTo(3) > 0;
            int many = 1 + upTo(upTo(5) == 0 ? 40 : 8);
            text.append(pushes ? "push " : "pop ").append(from).append(' ').append(pushes ? "" : Math.max(1, many / 3));
            for (int k = 0; k < many && pushes; k++) {
                text.append(k == 0 ? "" : " ").append(upTo(100));
            }
            text.append(';');
            count += pushes ? many : Math.max(1, many / 3);
        }
        for (int i = upTo(8) - 4; i > 0; i--) {
            mutate(text);
        }
        text.setLength(Math.min(text.length(), 500));
        return text.toString();
    }

    private static void mutate(StringBuilder text) {
        String[] pieces = {" ", ";", "0", "9", "64", "pop", "push", "pace 3;", "queue", "x", "-", "\n", "99999999999", "000", "pop 0 1;"};
        int at = upTo(text.length());
        if (upTo(2) == 0) {
            text.insert(at, pieces[upTo(pieces.length)]);
        } else {
            text.deleteCharAt(at);
        }
    }

    /** Feeds a text and loads it; returns how many calls these were. */
    private static int load(SteadyQueues x, Model model) {
        String text = randomText();
        int calls = 1;
        for (int i = 0; i < text.length(); i += 20) {
            int[] words = new int[5];
            for (int k = 0; k < 20; k++) {
                words[k / 4] = words[k / 4] << 8 | (i + k < text.length() ? text.charAt(i + k) : 0xff);
            }
            int length = i + 20;
            same("append", () -> x.append(words[0], words[1], words[2], words[3], words[4]), () -> length);
            calls++;
        }
        same("load '" + text + "'", () -> x.load(text.length()), () -> model.load(text));
        same("errorOffset of '" + text + "'", x::errorOffset, () -> model.offset);
        return calls + 1;
    }

    private static void change(SteadyQueues x, Model model) {
        int count = model.queues.size();
        int version = upTo(20) == 0 ? upTo(70) - 3 : upTo(3) > 0 ? count - 1 : upTo(count);
        int value = upTo(30) == 0 ? upTo(300) - 100 : upTo(100);
        switch (upTo(12)) {
            case 0: case 1: case 2: case 3:
                same("push", () -> x.push(version, value), () -> model.push(version, value));
                break;
            case 4: case 5: case 6:
                same("pop", () -> x.pop(version), () -> model.pop(version));
                break;
            case 7: case 8:
                same("drop", () -> x.drop(version), () -> model.drop(version));
                break;
            case 9:
                int pace = upTo(6);
                same("rule", () -> x.rule(pace), () -> model.rule(pace));
                break;
            default:
                same("undo", x::undo, model::undo);
                break;
        }
    }

    private static void look(SteadyQueues x, Model model) {
        int count = model.queues.size();
        int version = upTo(count + 2) - 1;
        int other = upTo(count + 2) - 1;
        int value = upTo(102) - 1;
        int list = upTo(9) - 1;
        int place = upTo(66) - 1;
        int what = upTo(13) - 1;
        switch (upTo(12)) {
            case 0: same("state " + what, () -> x.state(what), () -> model.state(what)); break;
            case 1: same("version " + what, () -> x.version(version, what), () -> model.version(version, what)); break;
            case 2: same("value", () -> x.value(version, list, place), () -> model.value(version, list, place)); break;
            case 3: same("first", () -> x.first(version), () -> model.first(version)); break;
            case 4: same("find", () -> x.find(version, value), () -> model.at(version).values().indexOf(value)); break;
            case 5: same("alike", () -> x.alike(version, other), () -> model.at(version).values().equals(model.at(other).values())); break;
            case 6: same("common", () -> x.common(version, other), () -> model.common(version, other)); break;
            case 7: same("work " + list, () -> x.work(version, list), () -> model.work(version, list)); break;
            case 8: same("idleIn", () -> x.idleIn(version), () -> model.idleIn(version)); break;
            case 9: same("gap", x::gap, () -> 0); break;
            case 10: same("ranked", () -> x.ranked(place), () -> model.ranked(place)); break;
            default: same("meanSteps", x::meanSteps, model::meanSteps); break;
        }
    }

    private static void run() {
        SteadyQueues x = new SteadyQueues();
        Model model = new Model();
        int calls = 0;
        while (calls < 480) {
            int kind = upTo(100);
            if (kind < 4) {
                calls += load(x, model);
            } else if (kind < 50) {
                change(x, model);
                calls++;
            } else {
                look(x, model);
                calls++;
            }
            if (upTo(40) == 0) {
                same("checksum", x::checksum, model::checksum);
                calls++;
            }
        }
    }

    public static void main(String[] args) {
        for (int i = 0; i < RUNS; i++) {
            run();
        }
        System.out.println(wrong == 0 ? "all answers are as the model's" : wrong + " answers are not as the model's");
        if (wrong != 0) {
            System.exit(1);
        }
    }
}
