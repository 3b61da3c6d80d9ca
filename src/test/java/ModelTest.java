import java.util.ArrayList;
import java.util.Comparator;
import java.util.LinkedHashSet;
import java.util.List;
import java.util.TreeMap;
import java.util.TreeSet;

/** Random runs of calls, each answer held against a second writing of the document, made as plainly as can be. */
public final class ModelTest {
    private static final int RUNS = 1500, CALLS_A_RUN = 500;
    private static int wrong = 0;
    private static final int[] statusesMet = new int[7];

    // ---- the second writing

    static final class Thing implements Cloneable {
        int[] v = new int[9];
        int thread;
        TreeSet<Integer> in = new TreeSet<>();

        Thing copy() {
            Thing other = new Thing();
            other.v = v.clone();
            other.thread = thread;
            other.in = new TreeSet<>(in);
            return other;
        }

        TreeSet<Integer> numbers() {
            TreeSet<Integer> all = new TreeSet<>();
            for (int i = 1; i <= 3; i++) {
                if (i == 1 || v[i] != 1000) {
                    all.add(v[i]);
                }
            }
            return all;
        }
    }

    static final class World {
        TreeMap<Integer, Thing> boxes = new TreeMap<>();
        TreeMap<Integer, Thing> mails = new TreeMap<>();
        int[] ever = new int[3];

        World copy() {
            World other = new World();
            boxes.forEach((id, box) -> other.boxes.put(id, box.copy()));
            mails.forEach((id, mail) -> other.mails.put(id, mail.copy()));
            other.ever = ever.clone();
            return other;
        }

        TreeMap<Integer, TreeSet<Integer>> threads() {
            TreeMap<Integer, TreeSet<Integer>> all = new TreeMap<>();
            mails.forEach((id, mail) -> all.computeIfAbsent(mail.thread, t -> new TreeSet<>()).add(id));
            return all;
        }

        TreeSet<Integer> there(int kind) {
            return new TreeSet<>(kind == 0 ? boxes.keySet() : kind == 1 ? mails.keySet() : threads().keySet());
        }

        List<Integer> wayUp(int b) {
            List<Integer> way = new ArrayList<>();
            for (int at = b; at != 1000 && way.size() < 30; at = boxes.get(at).v[1]) {
                way.add(at);
            }
            return way;
        }

        boolean mayBe() {
            for (int b : boxes.keySet()) {
                if (wayUp(b).size() > 4) {
                    return false;
                }
                for (int other : boxes.keySet()) {
                    Thing one = boxes.get(b);
                    Thing two = boxes.get(other);
                    if (b != other && one.v[0] == two.v[0] && one.v[1] == two.v[1]) {
                        return false;
                    }
                }
            }
            for (Thing mail : mails.values()) {
                if (mail.in.isEmpty()) {
                    return false;
                }
            }
            return true;
        }
    }

    static final class Answer {
        int status;
        List<List<Integer>> rows = new ArrayList<>();

        Answer() {
            for (int r = 0; r < 4; r++) {
                rows.add(new ArrayList<>());
            }
        }

        Answer failed(int code) {
            status = code;
            rows.forEach(List::clear);
            return this;
        }
    }

    static final class Model {
        World now = new World();
        // Of each KIND the sets that were there at each STATE, and those changed as it came to it.
        List<List<TreeSet<Integer>>> thereAt = new ArrayList<>();
        List<List<TreeSet<Integer>>> changedAt = new ArrayList<>();
        List<int[]> wholeLog = new ArrayList<>();
        List<int[]> filters = new ArrayList<>();
        int[] draft = {0, 1000, 0, 0, 0, 1000, 1000, 0, 0, 0};
        List<int[]> put = new ArrayList<>();
        List<Answer> latest = new ArrayList<>();
        boolean crash;

        Model() {
            for (int kind = 0; kind < 3; kind++) {
                thereAt.add(new ArrayList<>(List.of(new TreeSet<>())));
                changedAt.add(new ArrayList<>(List.of(new TreeSet<>())));
            }
        }

        int state(int kind) {
            return thereAt.get(kind).size() - 1;
        }

        List<int[]> log() {
            return wholeLog.subList(Math.max(0, wholeLog.size() - 60), wholeLog.size());
        }

        int put(int... call) {
            if (put.size() == 12) {
                return -4;
            }
            int[] all = new int[20];
            System.arraycopy(call, 0, all, 0, call.length);
            System.arraycopy(draft, 0, all, 10, 10);
            put.add(all);
            return put.size() - 1;
        }

        int run() {
            List<int[]> calls = put;
            put = new ArrayList<>();
            latest = new ArrayList<>();
            if (crash) {
                crash = false;
                return -9;
            }
            int good = 0;
            for (int[] call : calls) {
                World ahead = now.copy();
                Answer answer = answerTo(call);
                if (answer.status == 0) {
                    good++;
                    note(ahead);
                } else {
                    now = ahead;
                    answer.failed(answer.status);
                }
                statusesMet[-answer.status]++;
                latest.add(answer);
            }
            return good;
        }

        // What was made, changed or went is read off the two worlds.
        void note(World ahead) {
            for (int kind = 0; kind < 3; kind++) {
                TreeSet<Integer> was = ahead.there(kind);
                TreeSet<Integer> is = now.there(kind);
                TreeMap<Integer, Integer> what = new TreeMap<>();
                for (int id : was) {
                    if (!is.contains(id)) {
                        what.put(id, 3);
                    } else if (!look(ahead, kind, id).equals(look(now, kind, id))) {
                        what.put(id, 2);
                    }
                }
                for (int id : is) {
                    if (!was.contains(id)) {
                        what.put(id, 1);
                    }
                }
                if (!what.isEmpty()) {
                    thereAt.get(kind).add(is);
                    TreeSet<Integer> changed = new TreeSet<>();
                    for (int id : what.keySet()) {
                        wholeLog.add(new int[] {kind, state(kind), id, what.get(id)});
                        if (what.get(id) == 2) {
                            changed.add(id);
                        }
                    }
                    changedAt.get(kind).add(changed);
                }
            }
        }

        static String look(World w, int kind, int id) {
            if (kind == 2) {
                return w.threads().get(id).toString();
            }
            Thing thing = (kind == 0 ? w.boxes : w.mails).get(id);
            return java.util.Arrays.toString(thing.v) + thing.in;
        }

        static boolean in(int v, int least, int most) {
            return least <= v && v <= most;
        }

        boolean asTold(int[] k) {
            int kind = k[1];
            boolean ids = k[2] == -1 || k[2] >= 0 && in(k[3], 0, 3);
            switch (k[0]) {
                case 0: return in(kind, 0, 2) && ids;
                case 1: return k[1] >= -1 && in(k[2], 0, 7) && in(k[3], 0, 99) && in(k[4], 0, 99);
                case 2: return in(kind, 0, 2) && k[2] >= 0 && in(k[3], 1, 99);
                case 3:
                    if (kind == 0) {
                        return in(k[10], 0, 99) && in(k[12], 0, 9);
                    }
                    return kind == 1 && in(k[13], 0, 99) && in(k[14], 0, 999) && in(k[15], 0, 1000)
                            && in(k[16], 0, 1000) && in(k[17], 0, 9999) && in(k[18], 0, 9999) && in(k[19], 0, 15);
                case 4:
                    if (!ids || !in(kind, 0, 1) || !in(k[4], 0, 2)) {
                        return false;
                    }
                    if (kind == 0) {
                        return k[4] == 1 || in(k[5], 0, k[4] == 0 ? 99 : 9);
                    }
                    return k[4] != 0 || in(k[5], 0, 15);
                default: return in(kind, 0, 1) && ids;
            }
        }

        boolean callHolds(int c) {
            return c < latest.size() && latest.get(c).status == 0;
        }

        boolean oneHolds(int one) {
            return one >= 0 || one > -50 && callHolds(-1 - one) && !latest.get(-1 - one).rows.get(1).isEmpty();
        }

        int one(int one) {
            return one >= 0 ? one : latest.get(-1 - one).rows.get(1).get(0);
        }

        boolean namedHold(int[] k) {
            if ((k[0] == 0 || k[0] == 4 || k[0] == 5) && !(k[2] >= 0 ? callHolds(k[2]) : oneHolds(k[3]))) {
                return false;
            }
            if (k[0] == 3) {
                return oneHolds(k[1] == 0 ? k[11] : k[2]);
            }
            return k[0] != 4 || !(k[1] == 0 ? k[4] == 1 : k[4] > 0) || oneHolds(k[5]);
        }

        Answer answerTo(int[] k) {
            Answer answer = new Answer();
            if (!asTold(k)) {
                return answer.failed(-2);
            }
            if (!namedHold(k)) {
                return answer.failed(-5);
            }
            List<Integer> ids = new ArrayList<>();
            if (k[0] == 0 || k[0] == 4 || k[0] == 5) {
                ids = k[2] >= 0 ? latest.get(k[2]).rows.get(k[3]) : List.of(one(k[3]));
                ids = new ArrayList<>(new LinkedHashSet<>(ids));
            }
            switch (k[0]) {
                case 0:
                    for (int id : ids) {
                        answer.rows.get(now.there(k[1]).contains(id) ? 0 : 3).add(id);
                    }
                    return answer;
                case 1: return query(answer, k);
                case 2: return changes(answer, k);
                case 3: return k[1] == 0 ? makeBox(answer, k) : makeMail(answer, k);
                case 4: return change(answer, k, ids);
                default: return destroy(answer, k, ids);
            }
        }

        boolean fits(int m, int f) {
            Thing mail = now.mails.get(m);
            int[] one = filters.get(f);
            int a = one[1];
            switch (one[0]) {
                case 0: return mail.in.contains(a);
                case 1: return mail.v[5] < a;
                case 2: return mail.v[5] >= a;
                case 3: return mail.v[4] < a;
                case 4: return mail.v[4] >= a;
                case 5: return (mail.v[6] & 1 << a) != 0;
                case 6: return mail.v[0] == a;
                case 7: return mail.thread == a;
                case 8: return fits(m, a) && fits(m, one[2]);
                case 9: return fits(m, a) || fits(m, one[2]);
                default: return !fits(m, a);
            }
        }

        Answer query(Answer answer, int[] k) {
            if (k[1] >= filters.size()) {
                return answer.failed(-1);
            }
            List<Integer> fit = new ArrayList<>();
            for (int m : now.mails.keySet()) {
                if (k[1] < 0 || fits(m, k[1])) {
                    fit.add(m);
                }
            }
            int column = new int[] {5, 4, 0, -1}[k[2] % 4];
            Comparator<Integer> by = Comparator.comparing(m -> column < 0 ? m : now.mails.get(m).v[column]);
            fit.sort((k[2] < 4 ? by : by.reversed()).thenComparing(m -> m));
            for (int i = k[3]; i < fit.size() && i < k[3] + k[4]; i++) {
                answer.rows.get(0).add(fit.get(i));
            }
            return answer;
        }

        Answer changes(Answer answer, int[] k) {
            int kind = k[1];
            int s = k[2];
            if (s > state(kind)) {
                return answer.failed(-6);
            }
            if (s == state(kind)) {
                answer.rows.get(0).add(s);
                return answer;
            }
            int lost = wholeLog.size() - log().size();
            for (int[] entry : wholeLog.subList(0, lost)) {
                if (entry[0] == kind && entry[1] > s) {
                    return answer.failed(-6);
                }
            }
            TreeSet<Integer> wereThere = thereAt.get(kind).get(s);
            for (int t = state(kind); t > s; t--) {
                TreeSet<Integer> are = thereAt.get(kind).get(t);
                TreeSet<Integer> made = new TreeSet<>(are);
                made.removeAll(wereThere);
                TreeSet<Integer> gone = new TreeSet<>(wereThere);
                gone.removeAll(are);
                TreeSet<Integer> changed = new TreeSet<>();
                for (int u = s + 1; u <= t; u++) {
                    changed.addAll(changedAt.get(kind).get(u));
                }
                changed.retainAll(are);
                changed.retainAll(wereThere);
                if (made.size() + gone.size() + changed.size() <= k[3]) {
                    answer.rows.get(0).add(t);
                    answer.rows.get(1).addAll(made);
                    answer.rows.get(2).addAll(changed);
                    answer.rows.get(3).addAll(gone);
                    return answer;
                }
            }
            return answer.failed(-6);
        }

        Answer makeBox(Answer answer, int[] k) {
            int parent = k[11] == 1000 ? 1000 : one(k[11]);
            if (parent != 1000 && !now.boxes.containsKey(parent)) {
                return answer.failed(-1);
            }
            Thing box = new Thing();
            box.v[0] = k[10];
            box.v[1] = parent;
            box.v[2] = k[12];
            int id = now.ever[0]++;
            now.boxes.put(id, box);
            answer.rows.get(1).add(id);
            return !now.mayBe() ? answer.failed(-3) : id >= 20 ? answer.failed(-4) : answer;
        }

        Answer makeMail(Answer answer, int[] k) {
            int b = one(k[2]);
            if (!now.boxes.containsKey(b)) {
                return answer.failed(-1);
            }
            Thing mail = new Thing();
            System.arraycopy(k, 13, mail.v, 0, 7);
            mail.in.add(b);
            mail.thread = -1;
            for (Thing other : now.mails.values()) {
                TreeSet<Integer> common = other.numbers();
                common.retainAll(mail.numbers());
                if (mail.thread < 0 && other.v[0] == mail.v[0] && !common.isEmpty()) {
                    mail.thread = other.thread;
                }
            }
            if (mail.thread < 0) {
                mail.thread = now.ever[2]++;
            }
            int id = now.ever[1]++;
            now.mails.put(id, mail);
            answer.rows.get(1).add(id);
            return id >= 50 ? answer.failed(-4) : answer;
        }

        Answer change(Answer answer, int[] k, List<Integer> ids) {
            boolean told = k[1] == 0 ? k[4] == 1 : k[4] > 0;
            int v = told && !(k[1] == 0 && k[5] == 1000) ? one(k[5]) : k[5];
            for (int id : ids) {
                Thing thing = (k[1] == 0 ? now.boxes : now.mails).get(id);
                boolean wantsBox = told && !(k[1] == 0 && k[5] == 1000);
                if (thing == null || wantsBox && !now.boxes.containsKey(v)) {
                    return answer.failed(-1);
                }
                String was = look(now, k[1], id);
                if (k[1] == 0) {
                    thing.v[k[4]] = v;
                } else if (k[4] == 0) {
                    thing.v[6] = v;
                } else if (k[4] == 1) {
                    thing.in.add(v);
                } else {
                    thing.in.remove(v);
                }
                if (!now.mayBe()) {
                    return answer.failed(-3);
                }
                if (!was.equals(look(now, k[1], id))) {
                    answer.rows.get(2).add(id);
                }
            }
            return answer;
        }

        Answer destroy(Answer answer, int[] k, List<Integer> ids) {
            for (int id : ids) {
                if (k[1] == 1) {
                    if (now.mails.remove(id) == null) {
                        return answer.failed(-1);
                    }
                } else {
                    if (!now.boxes.containsKey(id)) {
                        return answer.failed(-1);
                    }
                    if (box(id, 3) > 0 || box(id, 4) > 0) {
                        return answer.failed(-3);
                    }
                    now.boxes.remove(id);
                }
                answer.rows.get(3).add(id);
            }
            return answer;
        }

        int box(int b, int what) {
            Thing box = now.boxes.get(b);
            if (box == null) {
                return -1;
            }
            switch (what) {
                case 0: return box.v[0];
                case 1: return box.v[1] == 1000 ? -9 : box.v[1];
                case 2: return box.v[2];
                case 3: return (int) now.mails.values().stream().filter(m -> m.in.contains(b)).count();
                case 4: return (int) now.boxes.values().stream().filter(o -> o.v[1] == b).count();
                case 5: return now.wayUp(b).size();
                default: return -2;
            }
        }

        int mail(int m, int what) {
            Thing mail = now.mails.get(m);
            if (mail == null) {
                return -1;
            }
            switch (what) {
                case 2: case 3: return mail.v[what] == 1000 ? -9 : mail.v[what];
                case 0: case 1: case 4: case 5: case 6: return mail.v[what];
                case 7: return mail.thread;
                case 8: return mail.in.size();
                default:
                    return what < 20 || !now.boxes.containsKey(what - 20) ? -2 : mail.in.contains(what - 20) ? 1 : 0;
            }
        }

        int thread(int t, int i) {
            TreeSet<Integer> held = now.threads().get(t);
            if (held == null || i < -1 || i >= held.size()) {
                return -1;
            }
            return i == -1 ? held.size() : new ArrayList<>(held).get(i);
        }

        int entry(int i, int what) {
            return i < 0 || i >= log().size() ? -1 : what < 0 || what > 3 ? -2 : log().get(i)[what];
        }

        int filter(int kind, int a, int b) {
            boolean two = kind == 8 || kind == 9;
            if ((two || kind == 10) && !in(a, 0, filters.size() - 1) || two && !in(b, 0, filters.size() - 1)) {
                return -1;
            }
            if (!in(kind, 0, 10) || kind == 5 && !in(a, 0, 3)) {
                return -2;
            }
            if (filters.size() == 20) {
                return -4;
            }
            filters.add(new int[] {kind, a, b});
            return filters.size() - 1;
        }

        int told(int what) {
            switch (what) {
                case 0: case 1: case 2: return now.there(what).size();
                case 3: return put.size();
                case 4: return latest.size();
                case 5: return log().size();
                case 6: return filters.size();
                case 10: case 11: case 12: return now.ever[what - 10];
                default: return -2;
            }
        }

        int given(int k, int r, int i) {
            if (!in(k, 0, latest.size() - 1) || !in(r, 0, 3) || !in(i, 0, latest.get(k).rows.get(r).size() - 1)) {
                return -1;
            }
            return latest.get(k).rows.get(r).get(i);
        }
    }

    // ---- the random runs

    private static long seed;
    private static MailCore x;
    private static Model y;
    private static int run;
    private static List<String> trail;
    private static int destroyRarely;

    private static int any(int bound) {
        seed = seed * 6364136223846793005L + 1442695040888963407L;
        return (int) ((seed >>> 33) % bound);
    }

    private static int odd() {
        int[] all = {-1, -2, -13, 4, 12, 20, 50, 99, 100, 1000, 10000, Integer.MIN_VALUE, Integer.MAX_VALUE};
        return all[any(all.length)];
    }

    private static int sometimesOdd(int v) {
        return any(40) == 0 ? odd() : v;
    }

    private static void due(String call, int got, int want) {
        if (got != want) {
            wrong++;
            if (wrong <= 5) {
                System.out.println("run " + run + ": " + call + " answered " + got + ", due is " + want
                        + "; ahead of it " + trail);
            }
        }
    }

    private static void told(String call, int got, int want) {
        trail.add(call);
        due(call, got, want);
    }

    /** ONE ID, mostly of one that is there or of a CALL ahead. */
    private static int anOne(int kind) {
        int dice = any(20);
        if (dice < 4) {
            return -1 - any(Math.max(1, y.put.size()));
        }
        if (dice == 4) {
            return sometimesOdd(any(kind == 0 ? 20 : 50));
        }
        List<Integer> there = new ArrayList<>(y.now.there(kind == 0 ? 0 : 1));
        return there.isEmpty() ? 0 : there.get(any(there.size()));
    }

    private static void draft() {
        int what = sometimesOdd(any(10));
        int[] tops = {30, 1, 10, 3, 12, 1, 1, 6, 6, 16};
        int v = what >= 0 && what < 10 ? any(tops[what]) : 0;
        if (what == 1) {
            v = any(2) == 0 ? 1000 : anOne(0);
        }
        if (what == 5 || what == 6) {
            v = any(2) == 0 ? 1000 : any(12);
        }
        v = sometimesOdd(v);
        int want = what >= 0 && what < 10 ? y.draft[what] : -1;
        if (want != -1 || what >= 0 && what < 10) {
            y.draft[what] = v;
        }
        told("draft(" + what + ", " + v + ")", x.draft(what, v), want);
    }

    /** Mostly the row in which the CALL c may have IDS. */
    private static int rowToTake(int c) {
        if (any(5) == 0 || c < 0 || c >= y.put.size()) {
            return any(4);
        }
        return new int[] {any(2) * 3, 0, any(4), 1, 2, 3}[y.put.get(c)[0]];
    }

    private static void put() {
        int kind = sometimesOdd(any(2));
        int c = any(2) == 0 || y.put.isEmpty() ? -1 : sometimesOdd(any(y.put.size()));
        int r = c == -1 ? anOne(kind) : sometimesOdd(rowToTake(c));
        switch (run % 3 == 0 && any(2) == 0 ? 5 : any(10)) {
            case 0: {
                int k = sometimesOdd(any(3));
                told("get(" + k + ", " + c + ", " + r + ")", x.get(k, c, r), y.put(0, k, c, r));
                break;
            }
            case 1: case 2: {
                int f = any(3) == 0 ? -1 : sometimesOdd(any(20));
                int key = sometimesOdd(any(8));
                int p = sometimesOdd(any(4));
                int n = sometimesOdd(any(9));
                told("query(" + f + ", " + key + ", " + p + ", " + n + ")", x.query(f, key, p, n), y.put(1, f, key, p, n));
                break;
            }
            case 3: case 4: {
                int k = any(3);
                int s = sometimesOdd(Math.max(0, y.state(k) - any(12) + 1));
                k = sometimesOdd(k);
                int m = sometimesOdd(1 + any(9));
                told("changes(" + k + ", " + s + ", " + m + ")", x.changes(k, s, m), y.put(2, k, s, m));
                break;
            }
            case 5: case 6: {
                int b = anOne(0);
                if (any(4) > 0 && run % 6 != 0) {
                    kind = 1;
                }
                told("make(" + kind + ", " + b + ")", x.make(kind, b), y.put(3, kind, b));
                break;
            }
            case 7: case 8: {
                int what = sometimesOdd(any(3));
                int v = kind == 0 && what == 1 && any(3) == 0 ? 1000 : what == 0 || kind == 0 && what == 2
                        ? sometimesOdd(any(8)) : anOne(0);
                told("change(" + kind + ", " + c + ", " + r + ", " + what + ", " + v + ")",
                        x.change(kind, c, r, what, v), y.put(4, kind, c, r, what, v));
                break;
            }
            default:
                if (any(destroyRarely) > 0) {
                    break;
                }
                told("destroy(" + kind + ", " + c + ", " + r + ")", x.destroy(kind, c, r), y.put(5, kind, c, r));
        }
    }

    private static void addFilter() {
        int kind = sometimesOdd(any(11));
        int a = sometimesOdd(any(kind >= 8 ? Math.max(1, y.filters.size()) : kind == 5 ? 4 : 7));
        int b = sometimesOdd(any(Math.max(1, y.filters.size())));
        told("filter(" + kind + ", " + a + ", " + b + ")", x.filter(kind, a, b), y.filter(kind, a, b));
    }

    private static void step() {
        int dice = any(100);
        if (dice < 35) {
            draft();
        } else if (dice < 80) {
            put();
        } else if (dice < 82) {
            addFilter();
        } else if (dice < 83) {
            int n = sometimesOdd(any(13));
            boolean good = n >= 0 && n <= 12;
            y.crash |= good;
            told("crash(" + n + ")", x.crash(n), good ? 1 : -2);
        } else if (dice < 84) {
            int were = y.put.size();
            y.put.clear();
            told("drop()", x.drop(), were);
        } else if (dice < 92) {
            told("run()", x.run(), y.run());
            lookAtAll();
        } else {
            lookAtOutcomes();
        }
    }

    private static void lookAtOutcomes() {
        for (int k = -1; k <= 13; k++) {
            boolean there = k >= 0 && k < y.latest.size();
            due("status(" + k + ")", x.status(k), there ? y.latest.get(k).status : -9);
            for (int r = -1; r <= 4; r++) {
                int count = there && r >= 0 && r <= 3 ? y.latest.get(k).rows.get(r).size() : -1;
                due("many(" + k + ", " + r + ")", x.many(k, r), count);
                for (int i = -1; i <= count + 1; i++) {
                    due("given(" + k + ", " + r + ", " + i + ")", x.given(k, r, i), y.given(k, r, i));
                }
            }
        }
    }

    private static void lookAtAll() {
        lookAtOutcomes();
        for (int kind = -1; kind <= 3; kind++) {
            due("state(" + kind + ")", x.state(kind), kind < 0 || kind > 2 ? -1 : y.state(kind));
        }
        for (int what = -1; what <= 14; what++) {
            due("told(" + what + ")", x.told(what), y.told(what));
        }
        for (int b = -1; b <= 20; b++) {
            for (int what = -1; what <= 6; what++) {
                due("box(" + b + ", " + what + ")", x.box(b, what), y.box(b, what));
            }
        }
        for (int m = -1; m <= 50; m++) {
            for (int what = -1; what <= 41; what++) {
                due("mail(" + m + ", " + what + ")", x.mail(m, what), y.mail(m, what));
            }
            for (int i = -2; i <= 6; i++) {
                due("thread(" + m + ", " + i + ")", x.thread(m, i), y.thread(m, i));
            }
            for (int f = -1; f <= 20; f++) {
                boolean known = y.now.mails.containsKey(m) && f >= 0 && f < y.filters.size();
                due("fits(" + m + ", " + f + ")", x.fits(m, f), !known ? -1 : y.fits(m, f) ? 1 : 0);
            }
        }
        for (int i = -1; i <= 61; i++) {
            for (int what = -1; what <= 4; what++) {
                due("entry(" + i + ", " + what + ")", x.entry(i, what), y.entry(i, what));
            }
        }
    }

    public static void main(String[] args) {
        for (run = 1; run <= RUNS && wrong == 0; run++) {
            seed = run * 7919L;
            x = new MailCore();
            y = new Model();
            trail = new ArrayList<>();
            destroyRarely = 1 + run % 5 * 3;
            for (int i = 0; i < CALLS_A_RUN && wrong == 0; i++) {
                step();
            }
        }
        StringBuilder met = new StringBuilder("statuses met:");
        for (int i = 0; i < statusesMet.length; i++) {
            met.append(" ").append(-i).append(": ").append(statusesMet[i]);
            if (statusesMet[i] == 0) {
                wrong++;
            }
        }
        System.out.println(met);
        System.out.println(wrong == 0 ? "all answers are as due" : wrong + " answers are not as due");
        if (wrong != 0) {
            System.exit(1);
        }
    }
}
