import java.nio.file.Files;
import java.nio.file.Path;
import java.util.ArrayList;
import java.util.Arrays;
import java.util.List;
import java.util.function.Consumer;
import java.util.function.ObjIntConsumer;
import java.util.function.ToIntFunction;

/** Each sentence of ../shared/DOC.md that names a boundary case, by its own words, at its boundary. */
public final class SentencesTest {
    private static final int BOX = 0, MAIL = 1, THREAD = 2;
    private static final int MAIN = 0, MADE = 1, CHANGED = 2, GONE = 3;
    private static final int NO_ONE = 1000, MOST_CALLS = 512;
    private static final int LEAST = Integer.MIN_VALUE, MOST = Integer.MAX_VALUE;
    private static final Consumer<Core> NOTHING = c -> { };

    private static String document;
    private static String sentence = "";
    private static int sentences = 0;
    private static int checks = 0;
    private static int wrong = 0;

    // ---- what the tests are made with

    /** A MailCore that keeps its calls in mind, and sees to it that they are not more than the document allows. */
    private static final class Core {
        private final MailCore core = new MailCore();
        private final List<String> trail = new ArrayList<>();

        private int did(int answer, String name, int... arguments) {
            trail.add(name + Arrays.toString(arguments) + " " + answer);
            if (trail.size() > MOST_CALLS) {
                complain("the test itself makes too many calls");
            }
            return answer;
        }

        private int draft(int what, int v) {
            return did(core.draft(what, v), "draft", what, v);
        }

        private int get(int kind, int c, int r) {
            return did(core.get(kind, c, r), "get", kind, c, r);
        }

        private int query(int f, int key, int p, int n) {
            return did(core.query(f, key, p, n), "query", f, key, p, n);
        }

        private int changes(int kind, int s, int m) {
            return did(core.changes(kind, s, m), "changes", kind, s, m);
        }

        private int make(int kind, int box) {
            return did(core.make(kind, box), "make", kind, box);
        }

        private int change(int kind, int c, int r, int what, int v) {
            return did(core.change(kind, c, r, what, v), "change", kind, c, r, what, v);
        }

        private int destroy(int kind, int c, int r) {
            return did(core.destroy(kind, c, r), "destroy", kind, c, r);
        }

        private int crash(int n) {
            return did(core.crash(n), "crash", n);
        }

        private int run() {
            return did(core.run(), "run");
        }

        private int drop() {
            return did(core.drop(), "drop");
        }

        private int status(int k) {
            return did(core.status(k), "status", k);
        }

        private int many(int k, int r) {
            return did(core.many(k, r), "many", k, r);
        }

        private int given(int k, int r, int i) {
            return did(core.given(k, r, i), "given", k, r, i);
        }

        private int state(int kind) {
            return did(core.state(kind), "state", kind);
        }

        private int told(int what) {
            return did(core.told(what), "told", what);
        }

        private int box(int b, int what) {
            return did(core.box(b, what), "box", b, what);
        }

        private int mail(int m, int what) {
            return did(core.mail(m, what), "mail", m, what);
        }

        private int thread(int t, int i) {
            return did(core.thread(t, i), "thread", t, i);
        }

        private int entry(int i, int what) {
            return did(core.entry(i, what), "entry", i, what);
        }

        private int filter(int kind, int a, int b) {
            return did(core.filter(kind, a, b), "filter", kind, a, b);
        }

        private int fits(int m, int f) {
            return did(core.fits(m, f), "fits", m, f);
        }
    }

    /** Sees what a way of calls leads to; goes that way anew on a new object where the calls of one do not suffice. */
    private static final class Eye {
        private final Consumer<Core> way;
        private final List<String> seen = new ArrayList<>();
        private Core core;

        private Eye(Consumer<Core> way) {
            this.way = way;
        }

        private int see(ToIntFunction<Core> look) {
            if (core == null || core.trail.size() + 2 > MOST_CALLS) {
                core = new Core();
                way.accept(core);
            }
            int answer = look.applyAsInt(core);
            seen.add(core.trail.get(core.trail.size() - 1));
            return answer;
        }
    }

    private static void complain(String what) {
        wrong++;
        if (wrong <= 40) {
            System.out.println(sentence + " - " + what);
        }
    }

    /** The words that stand in the document, of which the checks that follow are. */
    private static void sentence(String where, String words) {
        sentence = where + ": " + words;
        sentences++;
        if (document != null && !document.contains(words)) {
            complain("stands not in the document");
        }
    }

    private static void due(Core c, int got, int want) {
        checks++;
        if (got != want) {
            List<String> last = c.trail.subList(Math.max(0, c.trail.size() - 30), c.trail.size());
            complain("due is " + want + " of the last of " + last);
        }
    }

    private static void same(String what, List<String> got, List<String> want) {
        checks++;
        if (!got.equals(want)) {
            List<String> more = new ArrayList<>(got);
            more.removeAll(want);
            List<String> less = new ArrayList<>(want);
            less.removeAll(got);
            complain(what + ": is " + more + ", due is " + less);
        }
    }

    private static void row(Core c, int k, int r, int... want) {
        due(c, c.many(k, r), want.length);
        for (int i = 0; i < want.length; i++) {
            due(c, c.given(k, r, i), want[i]);
        }
    }

    private static void rows(Core c, int k, int[] main, int[] made, int[] changed, int[] gone) {
        due(c, c.status(k), 0);
        row(c, k, MAIN, main);
        row(c, k, MADE, made);
        row(c, k, CHANGED, changed);
        row(c, k, GONE, gone);
    }

    private static int[] ids(int... all) {
        return all;
    }

    private static void statuses(Core c, int... want) {
        for (int k = 0; k < want.length; k++) {
            due(c, c.status(k), want[k]);
        }
        due(c, c.status(want.length), -9);
    }

    private static Core after(Consumer<Core> way) {
        Core c = new Core();
        way.accept(c);
        return c;
    }

    private static void seeThings(Eye eye) {
        for (int what : new int[] {0, 1, 2, 5, 6, 10, 11, 12}) {
            eye.see(c -> c.told(what));
        }
        for (int kind = BOX; kind <= THREAD; kind++) {
            int of = kind;
            eye.see(c -> c.state(of));
        }
        int boxes = eye.see(c -> c.told(10));
        for (int i = 0; i < boxes * 6; i++) {
            int at = i;
            eye.see(c -> c.box(at / 6, at % 6));
        }
        int mails = eye.see(c -> c.told(11));
        int filters = eye.see(c -> c.told(6));
        for (int m = 0; m < mails; m++) {
            seeMail(eye, m, boxes, filters);
        }
        int entries = eye.see(c -> c.told(5));
        for (int i = 0; i < entries * 4; i++) {
            int at = i;
            eye.see(c -> c.entry(at / 4, at % 4));
        }
    }

    private static void seeMail(Eye eye, int m, int boxes, int filters) {
        for (int what = 0; what < 20 + boxes; what++) {
            int of = what;
            if (what <= 8 || what >= 20) {
                eye.see(c -> c.mail(m, of));
            }
        }
        for (int f = 0; f < filters; f++) {
            int of = f;
            eye.see(c -> c.fits(m, of));
        }
        // There are no more threads than mails.
        int held = eye.see(c -> c.thread(m, -1));
        for (int i = 0; i <= held; i++) {
            int at = i;
            eye.see(c -> c.thread(m, at));
        }
    }

    private static void seeOutcomes(Eye eye, int below) {
        for (int k = 0; k < below; k++) {
            int of = k;
            eye.see(c -> c.status(of));
            for (int r = MAIN; r <= GONE; r++) {
                int in = r;
                int count = eye.see(c -> c.many(of, in));
                for (int i = 0; i <= count; i++) {
                    int at = i;
                    eye.see(c -> c.given(of, in, at));
                }
            }
        }
    }

    private static void seeDrafts(Eye eye) {
        for (int what = 0; what < 10; what++) {
            int of = what;
            int was = eye.see(c -> c.draft(of, 0));
            eye.see(c -> c.draft(of, was));
        }
    }

    private static List<String> things(Consumer<Core> way) {
        Eye eye = new Eye(way);
        seeThings(eye);
        return eye.seen;
    }

    private static List<String> outcomes(Consumer<Core> way, int below) {
        Eye eye = new Eye(way);
        seeOutcomes(eye, below);
        return eye.seen;
    }

    private static List<String> all(Consumer<Core> way) {
        Eye eye = new Eye(way);
        eye.see(c -> c.told(3));
        eye.see(c -> c.told(4));
        seeOutcomes(eye, 13);
        seeThings(eye);
        seeDrafts(eye);
        return eye.seen;
    }

    /** A call that is refused, behind a way of calls: all that can be seen then, and what the next run() does, stay. */
    private static void refused(Consumer<Core> way, int want, ToIntFunction<Core> call) {
        Consumer<Core> with = way.andThen(c -> due(c, call.applyAsInt(c), want));
        same("a refused call changes what is there", all(with), all(way));
        same("a refused call changes the next run", all(with.andThen(Core::run)), all(way.andThen(Core::run)));
    }

    /** A CALL with a STATUS that is not 0, the last of a request: it gives nothing and changes nothing. */
    private static void fails(Consumer<Core> ahead, int want, Consumer<Core> put) {
        int number = after(ahead).told(3);
        Consumer<Core> without = ahead.andThen(Core::run);
        Consumer<Core> with = ahead.andThen(put).andThen(Core::run);
        Core c = after(with);
        due(c, c.status(number), want);
        for (int r = MAIN; r <= GONE; r++) {
            due(c, c.many(number, r), 0);
            due(c, c.given(number, r, 0), -1);
        }
        due(c, c.status(number + 1), -9);
        same("a CALL that fails changes what is there", things(with), things(without));
        same("a CALL that fails changes what is logged behind it", things(with.andThen(SentencesTest::putMore)),
                things(without.andThen(SentencesTest::putMore)));
        same("a CALL that fails changes those ahead", outcomes(with, number), outcomes(without, number));
    }

    /** CALLS of which at least one is good and changes something, mostly. */
    private static void putMore(Core c) {
        for (int what = 0; what < 10; what++) {
            c.draft(what, what == 0 ? 97 : what == 1 ? NO_ONE : what == 2 ? 6 : 0);
        }
        c.make(BOX, 0);
        c.make(MAIL, 0);
        c.change(BOX, -1, 0, 2, 8);
        c.change(MAIL, -1, 0, 0, 8);
        c.run();
    }

    private static void allFail(Consumer<Core> ahead, int want, ObjIntConsumer<Core> put, int... numbers) {
        for (int v : numbers) {
            fails(ahead, want, c -> put.accept(c, v));
        }
    }

    private static void allGood(Consumer<Core> ahead, ObjIntConsumer<Core> put, int... numbers) {
        for (int v : numbers) {
            Core c = after(ahead);
            int number = c.told(3);
            put.accept(c, v);
            c.run();
            due(c, c.status(number), 0);
        }
    }

    private static int putBox(Core c, int name, int parent) {
        c.draft(0, name);
        c.draft(1, parent);
        return c.make(BOX, 0);
    }

    private static int putMail(Core c, int box, int number) {
        c.draft(4, number);
        return c.make(MAIL, box);
    }

    private static void putMail(Core c, int subject, int number, int names, int also) {
        c.draft(3, subject);
        c.draft(4, number);
        c.draft(5, names);
        c.draft(6, also);
        c.make(MAIL, 0);
    }

    /** So many BOXES without PARENT, of NAMES 0, 1 and so on. */
    private static Consumer<Core> boxes(int count) {
        return c -> {
            for (int b = 0; b < count; b++) {
                if (putBox(c, b, NO_ONE) == 11) {
                    c.run();
                }
            }
            c.run();
        };
    }

    /** BOXES of which each is the PARENT of the next one. */
    private static Consumer<Core> chain(int deep) {
        return c -> {
            for (int b = 0; b < deep; b++) {
                putBox(c, b, b == 0 ? NO_ONE : b - 1);
                c.run();
            }
        };
    }

    /** Two BOXES, and in BOX 0 so many MAILS, each of a THREAD of its own: of NUMBERS 0, 1 and so on. */
    private static Consumer<Core> mails(int count) {
        return boxes(2).andThen(c -> {
            for (int m = 0; m < count; m++) {
                if (putMail(c, 0, m) == 11) {
                    c.run();
                }
            }
            c.run();
        });
    }

    /** So many CALLS of one ENTRY each: BOX 0, there already, gets another ORDER. */
    private static Consumer<Core> orders(int count) {
        return c -> {
            for (int i = 1; i <= count; i++) {
                if (c.change(BOX, -1, 0, 2, i % 2) == 11) {
                    c.run();
                }
            }
            c.run();
        };
    }

    /** Some of everything, two CALLS put. */
    private static final Consumer<Core> FULL_OF_ALL = mails(3).andThen(c -> {
        c.filter(1, 5, 0);
        c.filter(10, 0, 0);
        c.query(-1, 7, 0, 2);
        c.destroy(MAIL, -1, 1);
        c.get(BOX, -1, -9);
        c.run();
        c.change(MAIL, -1, 0, 0, 3);
        putMail(c, 1, 2);
    });

    // ---- Terms, 1

    private static void kinds() {
        sentence("Terms 1", "KINDS: 0 BOX, 1 MAIL, 2 THREAD");
        Consumer<Core> way = mails(2);
        allFail(way, -2, (c, kind) -> c.get(kind, -1, 0), -1, 3, LEAST, MOST);
        allGood(way, (c, kind) -> c.get(kind, -1, 0), 0, 1, 2);
        allFail(way, -2, (c, kind) -> c.changes(kind, 0, 9), -1, 3, LEAST, MOST);
        allGood(way, (c, kind) -> c.changes(kind, 0, 9), 0, 1, 2);
        Core c = after(chain(3).andThen(d -> d.make(MAIL, 1)).andThen(Core::run));
        c.get(BOX, -1, 2);
        c.get(MAIL, -1, 1);
        c.get(THREAD, -1, 0);
        c.get(THREAD, -1, 1);
        due(c, c.run(), 4);
        row(c, 0, MAIN, 2);
        row(c, 1, GONE, 1);
        row(c, 2, MAIN, 0);
        row(c, 3, GONE, 1);
    }

    private static void idsNeverComeAgain() {
        sentence("Terms 1", "each with IDS of its own from 0 on, which never come again");
        Core c = new Core();
        c.make(BOX, 0);
        c.make(MAIL, -1);
        due(c, c.run(), 2);
        row(c, 0, MADE, 0);
        row(c, 1, MADE, 0);
        due(c, c.mail(0, 7), 0);
        c.destroy(MAIL, -1, 0);
        c.destroy(BOX, -1, 0);
        c.make(BOX, 0);
        c.make(MAIL, -3);
        c.make(BOX, 0);
        putBox(c, 1, NO_ONE);
        due(c, c.run(), 5);
        row(c, 2, MADE, 1);
        row(c, 3, MADE, 1);
        due(c, c.status(4), -3);
        row(c, 5, MADE, 2);
        due(c, c.mail(1, 7), 1);
        due(c, c.box(0, 0), -1);
        due(c, c.mail(0, 0), -1);
        due(c, c.thread(0, -1), -1);
        due(c, c.told(10), 3);
        due(c, c.told(11), 2);
        due(c, c.told(12), 2);
    }

    private static void twentyBoxes() {
        sentence("Terms 1", "A BOX (20 ever) has");
        Core c = after(boxes(19));
        putBox(c, 19, NO_ONE);
        putBox(c, 20, NO_ONE);
        due(c, c.run(), 1);
        statuses(c, 0, -4);
        row(c, 0, MADE, 19);
        due(c, c.box(19, 0), 19);
        due(c, c.box(20, 0), -1);
        fails(boxes(20), -4, d -> putBox(d, 20, NO_ONE));
        fails(boxes(20).andThen(d -> d.destroy(BOX, -1, 19)), -4, d -> putBox(d, 19, NO_ONE));
        fails(boxes(20).andThen(d -> d.destroy(BOX, -1, 0)).andThen(Core::run), -4, d -> putBox(d, 20, 1));
        c = after(boxes(19).andThen(d -> d.destroy(BOX, -1, 18)));
        putBox(c, 18, NO_ONE);
        due(c, c.run(), 2);
        row(c, 1, MADE, 19);
    }

    private static void numbersOfABox() {
        sentence("Terms 1", "has a NAME (0 .. 99), a PARENT (a BOX, or none), an ORDER (0 .. 9)");
        Consumer<Core> one = boxes(1).andThen(c -> c.draft(0, 50));
        ObjIntConsumer<Core> name = (c, v) -> {
            int was = c.draft(0, v);
            c.make(BOX, 0);
            c.draft(0, was);
        };
        allGood(NOTHING, name, 0, 99);
        allFail(one, -2, name, -1, 100, LEAST, MOST);
        ObjIntConsumer<Core> order = (c, v) -> {
            int was = c.draft(2, v);
            c.make(BOX, 0);
            c.draft(2, was);
        };
        allGood(one, order, 0, 9);
        allFail(one, -2, order, -1, 10, LEAST, MOST);
        ObjIntConsumer<Core> parent = (c, v) -> {
            int was = c.draft(1, v);
            c.make(BOX, 0);
            c.draft(1, was);
        };
        allGood(one, parent, 0, NO_ONE);
        allFail(one, -1, parent, 1, 20, 50, 999, 1001, MOST);
        allFail(one, -5, parent, -1, -12, -13, LEAST);
        Core c = new Core();
        c.draft(2, 9);
        putBox(c, 99, NO_ONE);
        c.draft(2, 0);
        putBox(c, 0, 0);
        due(c, c.run(), 2);
        due(c, c.box(0, 0), 99);
        due(c, c.box(0, 1), -9);
        due(c, c.box(0, 2), 9);
        due(c, c.box(1, 0), 0);
        due(c, c.box(1, 1), 0);
        due(c, c.box(1, 2), 0);
    }

    private static void fiftyMails() {
        sentence("Terms 1", "A MAIL (50 ever) has");
        Core c = after(mails(49));
        putMail(c, 0, 49);
        putMail(c, 0, 50);
        due(c, c.run(), 1);
        statuses(c, 0, -4);
        row(c, 0, MADE, 49);
        due(c, c.mail(49, 1), 49);
        due(c, c.mail(49, 7), 49);
        due(c, c.mail(50, 1), -1);
        due(c, c.thread(49, -1), 1);
        due(c, c.thread(50, -1), -1);
        fails(mails(50), -4, d -> d.make(MAIL, 0));
        fails(mails(50).andThen(d -> d.destroy(MAIL, -1, 49)), -4, d -> d.make(MAIL, 0));
        fails(mails(50).andThen(d -> d.destroy(MAIL, -1, 0)).andThen(Core::run), -4, d -> d.make(MAIL, 0));
    }

    private static void numbersOfAMail() {
        sentence("Terms 1", "a SUBJECT (0 .. 99), a NUMBER (0 .. 999), up to two numbers that it NAMES (0 .. 999 each),"
                + " a SIZE, a DATE (0 .. 9999 each), MARKS (0 .. 15: four bits)");
        int[] tops = {99, 999, 1000, 1000, 9999, 9999, 15};
        for (int i = 0; i < tops.length; i++) {
            int what = 3 + i;
            ObjIntConsumer<Core> put = (c, v) -> {
                int was = c.draft(what, v);
                c.make(MAIL, 0);
                c.draft(what, was);
            };
            allGood(mails(1), put, 0, 1, tops[i] - 1, tops[i]);
            allFail(mails(1), -2, put, -1, tops[i] + 1, LEAST, MOST);
        }
        int[][] all = {{0, 0, 0, 0, 0, 0, 0}, {99, 999, 999, 999, 9999, 9999, 15}, {0, 0, 1000, 999, 0, 1, 8},
            {1, 1, 0, 1000, 1, 0, 7}, {2, 2, 1000, 1000, 1, 1, 1}};
        for (int[] of : all) {
            Core c = after(boxes(1));
            for (int i = 0; i < of.length; i++) {
                c.draft(3 + i, of[i]);
            }
            c.make(MAIL, 0);
            due(c, c.run(), 1);
            for (int i = 0; i < of.length; i++) {
                due(c, c.mail(0, i), (i == 2 || i == 3) && of[i] == NO_ONE ? -9 : of[i]);
            }
        }
    }

    private static void inOneBoxOrMore() {
        sentence("Terms 1", "and is IN one BOX or more");
        Core c = after(boxes(20).andThen(d -> d.make(MAIL, 19)));
        c.run();
        due(c, c.mail(0, 8), 1);
        for (int b = 0; b < 20; b++) {
            due(c, c.mail(0, 20 + b), b == 19 ? 1 : 0);
            if (c.change(MAIL, -1, 0, 1, b) == 11) {
                c.run();
            }
        }
        c.run();
        due(c, c.mail(0, 8), 20);
        for (int b = 0; b < 20; b++) {
            due(c, c.mail(0, 20 + b), 1);
            due(c, c.box(b, 3), 1);
        }
        sentence("Terms 1", "A MAIL may not be IN no BOX.");
        Consumer<Core> inTwo = mails(2).andThen(d -> d.change(MAIL, -1, 0, 1, 1)).andThen(Core::run);
        c = after(inTwo);
        c.change(MAIL, -1, 0, 2, 0);
        c.change(MAIL, -1, 0, 2, 1);
        c.change(MAIL, -1, 0, 2, 0);
        due(c, c.run(), 2);
        statuses(c, 0, -3, 0);
        due(c, c.mail(0, 8), 1);
        due(c, c.mail(0, 21), 1);
        fails(inTwo, -3, d -> d.change(MAIL, -1, 1, 2, 0));
        fails(inTwo.andThen(d -> d.query(-1, 3, 0, 99)), -3, d -> d.change(MAIL, 0, MAIN, 2, 0));
    }

    /** A MAIL of SUBJECT 1 that has the numbers ahead, and one that has those behind: are they of one THREAD? */
    private static void meet(boolean want, int number, int names, int also, int number2, int names2, int also2) {
        Core c = after(boxes(1));
        putMail(c, 1, number, names, also);
        putMail(c, 1, number2, names2, also2);
        putMail(c, 2, number2, names2, also2);
        putMail(c, 0, number, names, also);
        due(c, c.run(), 4);
        due(c, c.mail(0, 7), 0);
        due(c, c.mail(1, 7), want ? 0 : 1);
        due(c, c.mail(2, 7), want ? 1 : 2);
        due(c, c.mail(3, 7), want ? 2 : 3);
        due(c, c.told(2), want ? 3 : 4);
    }

    private static void threadsGather() {
        sentence("Terms 1", "As it is made a MAIL comes to the THREAD of the MAIL of least ID that is there, has its"
                + " SUBJECT, and of which the NUMBER, or one that it NAMES, is the new one's NUMBER, or one that that NAMES");
        int[][] shapes = {{7, 1, 2}, {1, 7, 2}, {1, 2, 7}, {7, NO_ONE, NO_ONE}, {1, 7, NO_ONE}, {1, NO_ONE, 7}};
        for (int[] one : shapes) {
            for (int[] two : shapes) {
                int[] of = {two[0] == 7 ? 7 : 3, two[1] == 2 ? 4 : two[1] == 1 ? 5 : two[1], two[2] == 2 ? 4 : two[2]};
                meet(true, one[0], one[1], one[2], of[0], of[1], of[2]);
                for (int i = 0; i < 3; i++) {
                    of[i] = of[i] == 7 ? 8 : of[i];
                }
                meet(false, one[0], one[1], one[2], of[0], of[1], of[2]);
            }
        }
        meet(false, 1, NO_ONE, NO_ONE, 2, NO_ONE, NO_ONE);
        meet(false, 1, 3, NO_ONE, 2, NO_ONE, 4);
        meet(true, 0, NO_ONE, NO_ONE, 1, 0, NO_ONE);
        meet(true, 1, NO_ONE, 0, 0, NO_ONE, NO_ONE);
        meet(true, 999, NO_ONE, NO_ONE, 0, 999, 999);
        meet(false, 999, NO_ONE, NO_ONE, 998, 998, 0);
        meet(true, 5, 5, 5, 5, 5, 5);
        // SUBJECTS are no numbers of these.
        meet(false, 5, NO_ONE, NO_ONE, 1, NO_ONE, NO_ONE);
        meet(false, 1, NO_ONE, NO_ONE, 5, NO_ONE, NO_ONE);
        meet(false, 5, 6, NO_ONE, 0, 1, 2);
        meet(false, 0, 1, 2, 5, 6, NO_ONE);
        Consumer<Core> apart = boxes(1).andThen(c -> {
            putMail(c, 1, 10, NO_ONE, NO_ONE);
            putMail(c, 1, 20, NO_ONE, NO_ONE);
        });
        Core c = after(apart);
        putMail(c, 1, 30, 20, 10);
        putMail(c, 1, 20, 30, NO_ONE);
        c.destroy(MAIL, -1, 1);
        putMail(c, 1, 20, NO_ONE, NO_ONE);
        c.destroy(MAIL, -1, 2);
        c.destroy(MAIL, -1, 0);
        putMail(c, 1, 30, 20, NO_ONE);
        due(c, c.run(), 9);
        due(c, c.mail(3, 7), 1);
        due(c, c.mail(4, 7), 0);
        due(c, c.mail(5, 7), 1);
        due(c, c.told(12), 2);
        sentence("Terms 1", "without such a MAIL to a new THREAD");
        c = after(apart);
        c.destroy(MAIL, -1, 0);
        putMail(c, 1, 10, NO_ONE, NO_ONE);
        putMail(c, 2, 20, NO_ONE, NO_ONE);
        due(c, c.run(), 5);
        due(c, c.mail(2, 7), 2);
        due(c, c.mail(3, 7), 3);
        due(c, c.thread(0, -1), -1);
        due(c, c.told(12), 4);
    }

    private static void threadsAreThereWhileTheyHaveMails() {
        sentence("Terms 1", "A THREAD is there while it has MAILS.");
        Core c = after(boxes(1));
        due(c, c.thread(0, -1), -1);
        c.make(MAIL, 0);
        c.make(MAIL, 0);
        c.run();
        due(c, c.thread(0, -1), 2);
        c.destroy(MAIL, -1, 0);
        c.get(THREAD, -1, 0);
        c.run();
        row(c, 1, MAIN, 0);
        due(c, c.thread(0, -1), 1);
        due(c, c.told(2), 1);
        c.destroy(MAIL, -1, 1);
        c.get(THREAD, -1, 0);
        c.run();
        row(c, 1, GONE, 0);
        due(c, c.thread(0, -1), -1);
        due(c, c.told(2), 0);
        due(c, c.told(12), 1);
    }

    private static void namesOfBoxes() {
        sentence("Terms 1", "A BOX may not have the NAME of another one with the same PARENT (or without one, both)");
        Consumer<Core> way = boxes(3).andThen(c -> {
            putBox(c, 0, 0);
            putBox(c, 1, 0);
            putBox(c, 5, 1);
            putBox(c, 1, 1);
            c.run();
        });
        allFail(way, -3, (c, name) -> putBox(c, name, NO_ONE), 0, 1, 2);
        allFail(way, -3, (c, name) -> putBox(c, name, 0), 0, 1);
        Core c = after(way);
        putBox(c, 2, 0);
        putBox(c, 2, 1);
        putBox(c, 3, NO_ONE);
        putBox(c, 0, 2);
        due(c, c.run(), 4);
        allFail(way, -3, (d, v) -> d.change(BOX, -1, 0, 0, v), 1, 2);
        allGood(way, (d, v) -> d.change(BOX, -1, 0, 0, v), 0, 3, 5);
        allFail(way, -3, (d, v) -> d.change(BOX, -1, 3, 0, v), 1);
        allGood(way, (d, v) -> d.change(BOX, -1, 3, 0, v), 0, 2, 5);
        allFail(way, -3, (d, b) -> d.change(BOX, -1, b, 1, 1), 4);
        allGood(way, (d, b) -> d.change(BOX, -1, b, 1, 1), 0, 2, 3, 5, 6);
        allFail(way, -3, (d, b) -> d.change(BOX, -1, b, 1, NO_ONE), 3, 4, 6);
        allGood(way, (d, b) -> d.change(BOX, -1, b, 1, NO_ONE), 0, 1, 2, 5);
        allFail(way.andThen(d -> d.destroy(BOX, -1, 3)), -3, (d, b) -> d.change(BOX, -1, b, 1, 0), 1, 6);
        allGood(way.andThen(d -> d.destroy(BOX, -1, 4)), (d, b) -> d.change(BOX, -1, b, 1, 0), 1, 6);
        allGood(way.andThen(d -> d.destroy(BOX, -1, 2)), (d, v) -> d.change(BOX, -1, 0, 0, v), 2);
        allGood(way.andThen(d -> d.destroy(BOX, -1, 2)), (d, v) -> putBox(d, v, NO_ONE), 2);
    }

    private static void fourDeep() {
        sentence("Terms 1", "nor be more than 4 deep (one without PARENT is 1 deep, one with it 1 deeper than that)");
        Core c = after(chain(4));
        for (int b = 0; b < 4; b++) {
            due(c, c.box(b, 5), b + 1);
        }
        Consumer<Core> four = chain(4).andThen(d -> {
            putBox(d, 80, NO_ONE);
            putBox(d, 81, 4);
            putBox(d, 82, 5);
            d.run();
            d.draft(0, 90);
        });
        ObjIntConsumer<Core> make = (d, v) -> {
            d.draft(1, v);
            d.make(BOX, 0);
            d.draft(1, 5);
        };
        allFail(four, -3, make, 3);
        allGood(four, make, 2, 6, 1, 0, NO_ONE);
        allFail(four, -3, (d, v) -> d.change(BOX, -1, 4, 1, v), 1, 2, 3);
        allGood(four, (d, v) -> d.change(BOX, -1, 4, 1, v), 0, NO_ONE);
        allFail(four, -3, (d, v) -> d.change(BOX, -1, 5, 1, v), 2, 3);
        allGood(four, (d, v) -> d.change(BOX, -1, 5, 1, v), 1);
        allFail(four, -3, (d, v) -> d.change(BOX, -1, 6, 1, v), 3);
        allGood(four, (d, v) -> d.change(BOX, -1, 6, 1, v), 2);
        c = after(four);
        c.change(BOX, -1, 4, 1, 0);
        c.run();
        due(c, c.box(6, 5), 4);
        c.change(BOX, -1, 6, 1, NO_ONE);
        c.run();
        due(c, c.box(6, 5), 1);
        sentence("Terms 1", "nor be itself its PARENT, its PARENT's PARENT and so on");
        for (int b = 0; b < 4; b++) {
            int of = b;
            for (int below = b; below < 4; below++) {
                allFail(four, -3, (d, v) -> d.change(BOX, -1, of, 1, v), below);
            }
        }
        allGood(four, (d, v) -> d.change(BOX, -1, 3, 1, v), 0, 1, 2);
        allFail(four, -3, (d, v) -> d.change(BOX, -1, 4, 1, v), 4, 5, 6);
        allFail(boxes(1), -3, (d, v) -> d.change(BOX, -1, 0, 1, v), 0);
        Consumer<Core> firstMoves = boxes(5).andThen(d -> {
            for (int b = 2; b < 5; b++) {
                d.change(BOX, -1, b, 1, b - 1);
            }
            d.run();
        });
        allFail(firstMoves, -3, (d, v) -> d.change(BOX, -1, 0, 1, v), 0, 4);
        allGood(firstMoves, (d, v) -> d.change(BOX, -1, 0, 1, v), 1, 2, 3);
    }

    private static void boxesThatMayNotBeDestroyed() {
        sentence("Terms 1", "one that is the PARENT of any, or in which MAILS are, may not be destroyed");
        fails(chain(2), -3, c -> c.destroy(BOX, -1, 0));
        Core c = after(chain(2));
        c.destroy(BOX, -1, 1);
        c.destroy(BOX, -1, 0);
        due(c, c.run(), 2);
        c = after(chain(2));
        c.change(BOX, -1, 1, 1, NO_ONE);
        c.destroy(BOX, -1, 0);
        due(c, c.run(), 2);
        fails(mails(1), -3, d -> d.destroy(BOX, -1, 0));
        fails(mails(1).andThen(d -> d.change(MAIL, -1, 0, 1, 1)), -3, d -> d.destroy(BOX, -1, 1));
        c = after(mails(1));
        c.destroy(BOX, -1, 1);
        c.destroy(MAIL, -1, 0);
        c.destroy(BOX, -1, 0);
        due(c, c.run(), 3);
        due(c, c.told(0), 0);
        c = after(mails(1));
        c.change(MAIL, -1, 0, 1, 1);
        c.change(MAIL, -1, 0, 2, 0);
        c.destroy(BOX, -1, 0);
        c.destroy(BOX, -1, 1);
        due(c, c.run(), 3);
        statuses(c, 0, 0, 0, -3);
    }

    private static void stateOfEach(Core c, int boxes, int mails, int threads) {
        due(c, c.state(BOX), boxes);
        due(c, c.state(MAIL), mails);
        due(c, c.state(THREAD), threads);
    }

    private static void states() {
        sentence("Terms 1", "STATE of a KIND, 0 at first: 1 more with each CALL in which one of it was MADE, CHANGED (a"
                + " THREAD is, when a MAIL comes to it or goes, and it was there ahead and stays) or GONE.");
        Core c = new Core();
        stateOfEach(c, 0, 0, 0);
        c.make(BOX, 0);
        c.run();
        stateOfEach(c, 1, 0, 0);
        putBox(c, 1, NO_ONE);
        c.make(MAIL, 0);
        c.run();
        stateOfEach(c, 2, 1, 1);
        c.make(MAIL, 0);
        c.run();
        stateOfEach(c, 2, 2, 2);
        due(c, c.entry(5, 0) * 1000 + c.entry(5, 2) * 10 + c.entry(5, 3), 2002);
        putMail(c, 0, 5);
        c.run();
        stateOfEach(c, 2, 3, 3);
        due(c, c.entry(7, 0) * 1000 + c.entry(7, 2) * 10 + c.entry(7, 3), 2011);
        c.query(-1, 3, 0, 99);
        c.change(MAIL, 0, MAIN, 0, 1);
        c.change(MAIL, 0, MAIN, 1, 1);
        c.run();
        stateOfEach(c, 2, 5, 3);
        c.change(MAIL, -1, 0, 0, 1);
        c.change(MAIL, -1, 0, 1, 1);
        c.change(BOX, -1, 0, 2, 0);
        c.change(BOX, -1, 0, 0, 0);
        c.change(BOX, -1, 0, 1, NO_ONE);
        c.get(MAIL, -1, 0);
        c.query(-1, 3, 9, 9);
        c.destroy(MAIL, 6, MAIN);
        c.change(BOX, -1, 0, 2, 10);
        due(c, c.run(), 8);
        stateOfEach(c, 2, 5, 3);
        c.destroy(MAIL, -1, 0);
        c.run();
        stateOfEach(c, 2, 6, 4);
        due(c, c.entry(c.told(5) - 1, 2) * 10 + c.entry(c.told(5) - 1, 3), 2);
        c.query(-1, 3, 0, 99);
        c.destroy(MAIL, 0, MAIN);
        c.run();
        stateOfEach(c, 2, 7, 5);
    }

    private static void entries(Core c, int from, int[]... want) {
        due(c, c.told(5), from + want.length);
        for (int i = 0; i < want.length; i++) {
            for (int what = 0; what < 4; what++) {
                due(c, c.entry(from + i, what), want[i][what]);
            }
        }
    }

    private static void entriesByKindsThenByIds() {
        sentence("Terms 1", "THE LOG gets an ENTRY for each such one: KIND, STATE (the new one), ID, MADE, CHANGED or GONE:"
                + " of a CALL by KINDS, then by IDS.");
        Core c = after(boxes(2).andThen(d -> {
            putMail(d, 0, 3);
            putMail(d, 0, 4);
            putMail(d, 0, 3);
            putMail(d, 0, 4);
            d.run();
        }));
        entries(c, 0, ids(0, 1, 0, 1), ids(0, 2, 1, 1), ids(1, 1, 0, 1), ids(2, 1, 0, 1), ids(1, 2, 1, 1),
                ids(2, 2, 1, 1), ids(1, 3, 2, 1), ids(2, 3, 0, 2), ids(1, 4, 3, 1), ids(2, 4, 1, 2));
        c.query(-1, 7, 0, 3);
        c.change(MAIL, 0, MAIN, 0, 1);
        c.destroy(MAIL, 0, MAIN);
        c.run();
        row(c, 1, CHANGED, 3, 2, 1);
        row(c, 2, GONE, 3, 2, 1);
        entries(c, 10, ids(1, 5, 1, 2), ids(1, 5, 2, 2), ids(1, 5, 3, 2), ids(1, 6, 1, 3), ids(1, 6, 2, 3), ids(1, 6, 3, 3),
                ids(2, 5, 0, 2), ids(2, 5, 1, 3));
        c = after(boxes(20));
        due(c, c.told(5), 20);
        for (int b = 0; b < 20; b++) {
            due(c, c.entry(b, 0), 0);
            due(c, c.entry(b, 1), b + 1);
            due(c, c.entry(b, 2), b);
            due(c, c.entry(b, 3), 1);
        }
        c = after(mails(50));
        for (int i = 0; i < 60; i++) {
            due(c, c.entry(i, 0), 1 + i % 2);
            due(c, c.entry(i, 1), 21 + i / 2);
            due(c, c.entry(i, 2), 20 + i / 2);
            due(c, c.entry(i, 3), 1);
        }
        c = after(boxes(3));
        c.changes(BOX, 0, 9);
        c.change(BOX, 0, MADE, 2, 4);
        c.change(BOX, -1, 2, 1, 0);
        c.change(BOX, -1, 2, 0, 9);
        c.destroy(BOX, -1, 1);
        c.run();
        entries(c, 3, ids(0, 4, 0, 2), ids(0, 4, 1, 2), ids(0, 4, 2, 2), ids(0, 5, 2, 2), ids(0, 6, 2, 2), ids(0, 7, 1, 3));
    }

    private static void sixtyEntries() {
        sentence("Terms 1", "It has 60 ENTRIES; each further one drives out the eldest.");
        Core c = after(boxes(1).andThen(orders(58)));
        due(c, c.told(5), 59);
        due(c, c.entry(58, 1), 59);
        due(c, c.entry(59, 1), -1);
        c = after(boxes(1).andThen(orders(59)));
        due(c, c.told(5), 60);
        due(c, c.entry(0, 1), 1);
        due(c, c.entry(0, 3), 1);
        due(c, c.entry(59, 1), 60);
        due(c, c.entry(60, 1), -1);
        c = after(boxes(1).andThen(orders(60)));
        due(c, c.told(5), 60);
        for (int i = 0; i < 60; i++) {
            due(c, c.entry(i, 1), i + 2);
            due(c, c.entry(i, 3), 2);
        }
        due(c, c.entry(60, 1), -1);
        c = after(boxes(1).andThen(orders(180)));
        due(c, c.told(5), 60);
        due(c, c.entry(0, 1), 122);
        due(c, c.entry(59, 1), 181);
        c = after(mails(35).andThen(d -> d.query(-1, 3, 0, 99)).andThen(d -> d.destroy(MAIL, 0, MAIN)));
        c.run();
        due(c, c.told(5), 60);
        due(c, c.entry(0, 0) * 100 + c.entry(0, 2), 110);
        due(c, c.entry(24, 0) * 100 + c.entry(24, 2), 134);
        due(c, c.entry(25, 0) * 100 + c.entry(25, 2), 200);
        due(c, c.entry(59, 0) * 100 + c.entry(59, 2), 234);
    }

    // ---- Terms, 2

    private static List<ToIntFunction<Core>> oneOfEachCall() {
        return List.of(c -> c.get(BOX, -1, 0), c -> c.query(-1, 0, 0, 9), c -> c.changes(BOX, 0, 9), c -> c.make(BOX, 0),
                c -> c.change(BOX, -1, 0, 2, 5), c -> c.destroy(BOX, -1, 1));
    }

    private static void twelveCalls() {
        sentence("Terms 2", "CALLS of A REQUEST, 12 at most, numbered from 0 on as they are put, are done in order by"
                + " run(), and are none then");
        Core c = after(boxes(2));
        for (int k = 0; k < 12; k++) {
            due(c, c.told(3), k);
            due(c, c.change(BOX, -1, 0, 2, k % 10), k);
        }
        due(c, c.told(3), 12);
        due(c, c.run(), 12);
        due(c, c.box(0, 2), 1);
        row(c, 0, CHANGED);
        row(c, 11, CHANGED, 0);
        due(c, c.state(BOX), 13);
        due(c, c.told(3), 0);
        due(c, c.run(), 0);
        due(c, c.state(BOX), 13);
        Consumer<Core> eleven = boxes(2).andThen(d -> {
            for (int k = 0; k < 11; k++) {
                d.get(BOX, -1, k);
            }
        });
        String[] promises = {"int get(int kind, int c, int r)`: GET is put: its number. FULL.",
            "int query(int f, int key, int p, int n)`: QUERY. FULL.", "int changes(int kind, int s, int m)`: CHANGES. FULL.",
            "int make(int kind, int box)`: MAKE. FULL.",
            "int change(int kind, int c, int r, int what, int v)`: CHANGE. FULL.",
            "int destroy(int kind, int c, int r)`: DESTROY. FULL."};
        for (int i = 0; i < promises.length; i++) {
            sentence("Promise " + (3 + i), promises[i]);
            ToIntFunction<Core> call = oneOfEachCall().get(i);
            c = after(boxes(2));
            due(c, call.applyAsInt(c), 0);
            due(c, call.applyAsInt(c), 1);
            c = after(eleven);
            due(c, call.applyAsInt(c), 11);
            due(c, c.told(3), 12);
            for (ToIntFunction<Core> further : oneOfEachCall()) {
                Consumer<Core> twelve = eleven.andThen(call::applyAsInt);
                refused(twelve, -4, further);
            }
        }
        refused(eleven.andThen(d -> d.get(BOX, -1, 0)), -4, d -> d.get(9, -9, -9));
        refused(eleven.andThen(d -> d.get(BOX, -1, 0)), -4, d -> d.query(-9, -9, -9, -9));
        refused(eleven.andThen(d -> d.get(BOX, -1, 0)), -4, d -> d.changes(9, -9, -9));
        refused(eleven.andThen(d -> d.get(BOX, -1, 0)), -4, d -> d.make(9, -9));
        refused(eleven.andThen(d -> d.get(BOX, -1, 0)), -4, d -> d.change(9, -9, -9, -9, -9));
        refused(eleven.andThen(d -> d.get(BOX, -1, 0)), -4, d -> d.destroy(9, -9, -9));
    }

    private static void numbersOfACallAreItsOwn() {
        sentence("Terms 2", "numbered from 0 on as they are put, are done in order by run(), and are none then");
        // CALLS of an earlier request, dropped or done, that name CALLS which are not good in the next one.
        List<ObjIntConsumer<Core>> earlier = List.of((c, k) -> c.get(BOX, 0, MADE), (c, k) -> c.get(BOX, -1, -1),
                (c, k) -> c.change(BOX, -1, -1, 1, -1), (c, k) -> c.change(BOX, 0, MADE, 1, -1), (c, k) -> c.make(MAIL, -1),
                (c, k) -> c.destroy(BOX, -1, -1), (c, k) -> c.query(19, 0, 50, 0), (c, k) -> c.changes(MAIL, 77, 1), (c, k) -> {
                    putBox(c, 70, -1);
                    c.draft(1, NO_ONE);
                });
        for (ObjIntConsumer<Core> one : earlier) {
            for (ToIntFunction<Core> another : oneOfEachCall()) {
                for (Consumer<Core> end : List.<Consumer<Core>>of(Core::run, Core::drop)) {
                    Core c = after(boxes(2));
                    putBox(c, 60, NO_ONE);
                    one.accept(c, 0);
                    end.accept(c);
                    c.draft(0, 61);
                    c.get(3, -1, 0);
                    due(c, another.applyAsInt(c), 1);
                    due(c, c.run(), 1);
                    statuses(c, -2, 0);
                }
            }
        }
    }

    private static void failedCallsChangeNothing() {
        sentence("Terms 2", "(of one with a STATUS that is not 0 all are empty, and it changes nothing)");
        Consumer<Core> three = boxes(4).andThen(d -> {
            d.change(BOX, -1, 3, 1, 2);
            d.run();
            d.changes(BOX, 0, 99);
        });
        fails(three, -3, c -> c.change(BOX, 0, MADE, 0, 9));
        fails(three, -3, c -> c.change(BOX, 0, MADE, 1, 3));
        fails(three, -3, c -> c.destroy(BOX, 0, MADE));
        Consumer<Core> gone = boxes(4).andThen(d -> {
            d.changes(BOX, 0, 99);
            d.destroy(BOX, -1, 3);
        });
        fails(gone, -1, c -> c.change(BOX, 0, MADE, 2, 9));
        fails(gone, -1, c -> c.destroy(BOX, 0, MADE));
        Consumer<Core> mail = mails(4).andThen(d -> {
            d.change(MAIL, -1, 0, 1, 1);
            d.change(MAIL, -1, 3, 1, 1);
            d.change(MAIL, -1, 3, 2, 0);
            d.make(MAIL, 1);
            d.query(-1, 3, 0, 99);
        });
        fails(mail, -3, c -> c.change(MAIL, 4, MAIN, 2, 1));
        Consumer<Core> goneMail = mail.andThen(d -> d.destroy(MAIL, -1, 4));
        fails(goneMail, -1, c -> c.change(MAIL, 4, MAIN, 0, 9));
        fails(goneMail, -1, c -> c.change(MAIL, 4, MAIN, 1, 1));
        fails(goneMail, -1, c -> c.destroy(MAIL, 4, MAIN));
        Core c = after(goneMail);
        c.destroy(MAIL, 4, MAIN);
        c.get(MAIL, 6, GONE);
        c.get(MAIL, 4, MAIN);
        putBox(c, 50, NO_ONE);
        c.run();
        statuses(c, 0, 0, 0, 0, 0, 0, -1, -5, 0, 0);
        row(c, 8, MAIN, 0, 1, 2, 3);
        row(c, 9, MADE, 2);
    }

    private static void statusIsTheFirstThatFits() {
        sentence("Terms 2", "STATUS is 0, or the first of these that fits: -2 a number of the CALL is not as told; -5");
        Consumer<Core> way = mails(2);
        fails(way, -2, c -> c.get(3, 0, 0));
        fails(way, -2, c -> c.get(MAIL, 0, 4));
        fails(way, -2, c -> c.get(3, -1, -1));
        fails(way, -2, c -> c.change(BOX, 0, 0, 0, 100));
        fails(way, -2, c -> c.change(MAIL, -1, 0, 3, -1));
        fails(way, -2, c -> c.change(MAIL, -1, 99, 0, 16));
        fails(way, -2, c -> c.change(BOX, -1, 99, 2, 10));
        fails(way, -2, c -> c.destroy(THREAD, 0, 0));
        fails(way, -2, c -> c.destroy(THREAD, -1, 99));
        fails(way, -2, c -> c.make(2, -1));
        fails(way, -2, c -> c.query(99, 8, 0, 0));
        fails(way, -2, c -> c.changes(MAIL, 99, 100));
        fails(way, -2, c -> {
            c.draft(2, 10);
            putBox(c, 1, -1);
        });
        fails(way, -2, c -> {
            c.draft(9, 16);
            c.make(MAIL, -1);
        });
        fails(way, -2, c -> {
            c.draft(9, 16);
            c.make(MAIL, 99);
        });
        fails(way, -2, c -> {
            c.draft(2, 10);
            putBox(c, 1, 99);
        });
        sentence("Terms 2", "then of what it does, one by one: -1 there is no such one; -3 it may not be (as in part 1);"
                + " -4 there is no room; -6 it can not be told.");
        fails(way, -5, c -> c.change(MAIL, -1, 99, 1, -1));
        fails(way, -5, c -> c.change(MAIL, 0, 0, 1, 99));
        fails(way, -5, c -> c.change(BOX, -1, 99, 1, -1));
        fails(boxes(20), -1, c -> putBox(c, 3, 20));
        fails(boxes(20), -3, c -> putBox(c, 3, NO_ONE));
        fails(boxes(20), -4, c -> putBox(c, 3, 3));
        fails(mails(50), -1, c -> c.make(MAIL, 2));
        fails(mails(50), -1, c -> c.make(MAIL, 20));
        fails(mails(50), -5, c -> c.make(MAIL, -1));
        Consumer<Core> fullAndDeep = chain(4).andThen(c -> {
            for (int b = 4; b < 20; b++) {
                putBox(c, b, NO_ONE);
                c.run();
            }
        });
        fails(fullAndDeep, -3, c -> putBox(c, 50, 3));
        fails(fullAndDeep, -4, c -> putBox(c, 50, 2));
        Consumer<Core> mixed = mails(2).andThen(c -> {
            c.change(MAIL, -1, 0, 1, 1);
            c.change(MAIL, -1, 0, 2, 0);
            c.make(MAIL, 0);
            c.query(-1, 3, 0, 99);
            c.query(-1, 7, 0, 99);
            c.destroy(MAIL, -1, 2);
        });
        fails(mixed, -3, c -> c.change(MAIL, 3, MAIN, 2, 1));
        fails(mixed, -1, c -> c.change(MAIL, 4, MAIN, 2, 1));
        Consumer<Core> boxes = boxes(3).andThen(c -> {
            c.changes(BOX, 0, 9);
            c.destroy(BOX, -1, 1);
            putBox(c, 40, 0);
        });
        fails(boxes, -3, c -> c.destroy(BOX, 0, MADE));
        fails(boxes, -1, c -> c.change(BOX, 0, MADE, 0, 9));
        Consumer<Core> other = boxes(3).andThen(c -> {
            c.changes(BOX, 0, 9);
            c.destroy(BOX, -1, 0);
            putBox(c, 40, 1);
        });
        fails(other, -1, c -> c.destroy(BOX, 0, MADE));
    }

    private static void callsThatAreNamed() {
        sentence("Terms 2", "-5 a CALL that it names is not ahead of it, has a STATUS that is not 0, or its row is empty,"
                + " where one ID is wanted of it");
        // Of an earlier run there are outcomes of the same numbers, all good.
        Consumer<Core> old = boxes(8).andThen(c -> c.make(MAIL, 0)).andThen(Core::run).andThen(c -> {
            for (int k = 0; k < 12; k++) {
                putMail(c, k % 8, k);
            }
            c.run();
            putBox(c, 60, NO_ONE);
            putBox(c, 61, NO_ONE);
            putBox(c, 60, NO_ONE);
            c.get(BOX, -1, 0);
            c.draft(0, 62);
        });
        List<ObjIntConsumer<Core>> byIds = List.of((c, k) -> c.get(BOX, k, MADE), (c, k) -> c.change(BOX, k, MADE, 2, 7),
                (c, k) -> c.destroy(BOX, k, MADE));
        for (ObjIntConsumer<Core> put : byIds) {
            allGood(old, put, 0, 1, 3);
            allFail(old, -5, put, 2, 4, 5, 11, 12, 13, MOST);
        }
        List<ObjIntConsumer<Core>> byOne = List.of((c, k) -> c.get(BOX, -1, k), (c, k) -> c.change(BOX, -1, k, 2, 7),
                (c, k) -> c.destroy(BOX, -1, k), (c, k) -> c.change(BOX, -1, 5, 1, k), (c, k) -> c.make(MAIL, k),
                (c, k) -> c.change(MAIL, -1, 0, 1, k), (c, k) -> c.change(MAIL, -1, 0, 2, k), (c, k) -> {
                    c.draft(1, k);
                    c.make(BOX, 0);
                    c.draft(1, NO_ONE);
                });
        for (ObjIntConsumer<Core> put : byOne) {
            allGood(old, put, -1, -2);
            allFail(old, -5, put, -3, -4, -5, -6, -12, -13, -14, LEAST, LEAST + 1);
        }
        Core c = new Core();
        putBox(c, 1, -1);
        c.get(BOX, -1, -1);
        c.get(BOX, 0, MADE);
        c.get(BOX, 3, MADE);
        c.get(BOX, -1, -5);
        putBox(c, 1, NO_ONE);
        c.get(BOX, -1, -6);
        c.get(BOX, 5, MADE);
        c.get(BOX, -1, -2);
        c.get(BOX, 2, GONE);
        c.get(BOX, 4, GONE);
        c.get(BOX, 7, MAIN);
        due(c, c.run(), 4);
        statuses(c, -5, -5, -5, -5, -5, 0, 0, 0, -5, -5, -5, 0);
        row(c, 6, MAIN, 0);
        row(c, 7, MAIN, 0);
        row(c, 11, MAIN, 0);
        c = after(boxes(1));
        for (int k = 0; k < 10; k++) {
            c.get(BOX, -1, 0);
        }
        putBox(c, 50, NO_ONE);
        c.change(BOX, -1, -11, 2, 9);
        due(c, c.run(), 12);
        row(c, 11, CHANGED, 1);
    }

    private static void emptyRows() {
        sentence("Terms 2", "or its row is empty, where one ID is wanted of it");
        Consumer<Core> way = mails(2).andThen(c -> c.query(-1, 3, 2, 9));
        Consumer<Core> noMore = way.andThen(c -> c.changes(BOX, 2, 9));
        allFail(noMore, -5, (c, one) -> c.get(MAIL, -1, one), -1, -2);
        allFail(noMore, -5, (c, one) -> c.make(MAIL, one), -1, -2);
        allFail(noMore, -5, (c, one) -> c.destroy(BOX, -1, one), -1, -2);
        allFail(noMore, -5, (c, one) -> c.change(BOX, -1, 0, 1, one), -1, -2);
        allFail(noMore, -5, (c, one) -> putBox(c, 50, one), -1, -2);
        for (int r = MAIN; r <= GONE; r++) {
            int of = r;
            Core c = after(way);
            c.get(MAIL, 0, of);
            c.change(MAIL, 0, of, 0, 9);
            c.change(MAIL, 0, of, 1, 1);
            c.destroy(BOX, 0, of);
            due(c, c.run(), 5);
            for (int k = 0; k < 5; k++) {
                rows(c, k, ids(), ids(), ids(), ids());
            }
            due(c, c.state(BOX) * 10 + c.state(MAIL), 22);
        }
        // Where no IDS are told, the ONE ID beside them is still wanted; whether there is such a BOX is not asked.
        List<ObjIntConsumer<Core>> beside = List.of((c, v) -> c.change(BOX, 0, MAIN, 1, v),
                (c, v) -> c.change(MAIL, 0, MAIN, 1, v), (c, v) -> c.change(MAIL, 0, MAIN, 2, v));
        for (ObjIntConsumer<Core> put : beside) {
            allFail(way, -5, put, -1, -2, -12, -13, LEAST);
            allGood(way, put, 0, 1, 2, 19, 20, NO_ONE, MOST);
        }
    }

    private static void oneId() {
        sentence("Terms 2", "ONE ID is told as it is (0 or more), or as -1 less the number of a CALL: the first of its MADE.");
        Core c = after(boxes(3));
        c.get(BOX, -1, 0);
        c.get(BOX, -1, 2);
        c.get(BOX, -1, 3);
        c.get(BOX, -1, MOST);
        putBox(c, 30, NO_ONE);
        c.changes(BOX, 1, 9);
        c.get(BOX, -1, -5);
        c.get(BOX, -1, -6);
        c.change(BOX, -1, -5, 1, -6);
        putBox(c, 31, -6);
        due(c, c.run(), 10);
        row(c, 0, MAIN, 0);
        row(c, 1, MAIN, 2);
        row(c, 2, GONE, 3);
        row(c, 3, GONE, MOST);
        row(c, 5, MADE, 1, 2, 3);
        row(c, 6, MAIN, 3);
        row(c, 7, MAIN, 1);
        row(c, 8, CHANGED, 3);
        due(c, c.box(3, 1), 1);
        due(c, c.box(4, 1), 1);
        sentence("Terms 2", "IDS are told by c, r: c -1: ONE ID, told by r; c 0 or more: row r (0 .. 3) of CALL c.");
        Consumer<Core> way = mails(3).andThen(d -> {
            d.query(-1, 7, 0, 99);
            d.make(MAIL, 0);
            d.change(MAIL, -1, 0, 0, 9);
            d.get(MAIL, -1, 77);
        });
        c = after(way);
        for (int k = 0; k < 4; k++) {
            c.get(MAIL, k, k);
        }
        c.get(MAIL, 0, MADE);
        c.get(MAIL, 1, MAIN);
        c.get(MAIL, 2, GONE);
        c.get(MAIL, 3, CHANGED);
        due(c, c.run(), 12);
        rows(c, 4, ids(2, 1, 0), ids(), ids(), ids());
        rows(c, 5, ids(3), ids(), ids(), ids());
        rows(c, 6, ids(0), ids(), ids(), ids());
        rows(c, 7, ids(), ids(), ids(), ids(77));
        for (int k = 8; k < 12; k++) {
            rows(c, k, ids(), ids(), ids(), ids());
        }
        allFail(way, -2, (d, v) -> d.get(MAIL, v, 0), -2, LEAST);
        allFail(way, -2, (d, v) -> d.change(MAIL, v, 0, 0, 1), -2, LEAST);
        allFail(way, -2, (d, v) -> d.destroy(MAIL, v, 0), -2, LEAST);
        allFail(way, -2, (d, r) -> d.get(MAIL, 0, r), -1, 4, LEAST, MOST);
        allFail(way, -2, (d, r) -> d.change(MAIL, 0, r, 0, 1), -1, 4, LEAST, MOST);
        allFail(way, -2, (d, r) -> d.destroy(MAIL, 0, r), -1, 4, LEAST, MOST);
        allGood(way, (d, r) -> d.get(MAIL, -1, r), 0, 4, 50, MOST, -2);
        allGood(way, (d, r) -> d.change(MAIL, 0, r, 0, 1), 0, 1, 2, 3);
        allGood(way, (d, r) -> d.destroy(MAIL, 0, r), 0, 1, 2, 3);
    }

    private static void gets() {
        sentence("Terms 2", "GET of a KIND, IDS: MAIN: those that are there, GONE: those that are not; in their order, each once.");
        Core c = after(mails(50));
        c.query(-1, 7, 0, 99);
        c.destroy(MAIL, -1, 48);
        c.destroy(MAIL, -1, 0);
        c.get(MAIL, 0, MAIN);
        c.get(THREAD, 0, MAIN);
        c.get(BOX, 0, MAIN);
        c.run();
        int[] there = new int[48];
        there[0] = 49;
        for (int i = 1; i < there.length; i++) {
            there[i] = 48 - i;
        }
        rows(c, 3, there, ids(), ids(), ids(48, 0));
        due(c, c.many(4, MAIN) * 100 + c.many(4, GONE), 4802);
        row(c, 5, MAIN, 1, 0);
        due(c, c.many(5, GONE), 48);
        due(c, c.given(5, GONE, 0), 49);
        due(c, c.given(5, GONE, 47), 2);
        c = after(mails(1));
        c.get(MAIL, -1, 1);
        c.make(MAIL, 0);
        c.get(MAIL, -1, 1);
        c.changes(MAIL, 2, 9);
        c.get(MAIL, 3, MAIN);
        due(c, c.run(), 5);
        rows(c, 0, ids(), ids(), ids(), ids(1));
        rows(c, 2, ids(1), ids(), ids(), ids());
        rows(c, 4, ids(), ids(), ids(), ids(2));
    }

    /** A MAIL of its own THREAD, of the DATE, SIZE and SUBJECT told. */
    private static void putSized(Core c, int date, int size, int subject) {
        c.draft(7, size);
        c.draft(8, date);
        c.draft(3, subject);
        c.make(MAIL, 0);
    }

    private static void queries() {
        sentence("Terms 2", "QUERY: FILTER f (-1: none; one that is not there: -1; below: -2), KEY (0 DATE, 1 SIZE, 2"
                + " SUBJECT, 3 ID; 4 to 7 the same, falling), p (0 .. 99), n (0 .. 99)");
        Consumer<Core> way = mails(2).andThen(c -> {
            c.filter(2, 0, 0);
            c.filter(1, 0, 0);
        });
        allGood(way, (c, f) -> c.query(f, 0, 0, 9), -1, 0, 1);
        allFail(way, -1, (c, f) -> c.query(f, 0, 0, 9), 2, 19, 20, 32, MOST);
        allFail(way, -2, (c, f) -> c.query(f, 0, 0, 9), -2, LEAST);
        allGood(way, (c, key) -> c.query(-1, key, 0, 9), 0, 1, 2, 3, 4, 5, 6, 7);
        allFail(way, -2, (c, key) -> c.query(-1, key, 0, 9), -1, 8, LEAST, MOST);
        allGood(way, (c, p) -> c.query(-1, 0, p, 9), 0, 1, 98, 99);
        allFail(way, -2, (c, p) -> c.query(-1, 0, p, 9), -1, 100, LEAST, MOST);
        allGood(way, (c, n) -> c.query(-1, 0, 0, n), 0, 1, 98, 99);
        allFail(way, -2, (c, n) -> c.query(-1, 0, 0, n), -1, 100, LEAST, MOST);
        Core c = after(way);
        c.query(-1, 3, 0, 9);
        c.query(0, 3, 0, 9);
        c.query(1, 3, 0, 9);
        c.run();
        rows(c, 0, ids(0, 1), ids(), ids(), ids());
        rows(c, 1, ids(0, 1), ids(), ids(), ids());
        rows(c, 2, ids(), ids(), ids(), ids());
        c = after(mails(2));
        c.filter(7, 1, 0);
        c.filter(7, 0, 0);
        for (int f = -1; f <= 1; f++) {
            c.query(f, 3, 0, 9);
        }
        c.run();
        row(c, 0, MAIN, 0, 1);
        row(c, 1, MAIN, 1);
        row(c, 2, MAIN, 0);
        fails(mails(2), -1, d -> d.query(0, 0, 0, 9));
        c = new Core();
        c.query(-1, 0, 0, 99);
        due(c, c.run(), 1);
        rows(c, 0, ids(), ids(), ids(), ids());
    }

    private static void sortedInWindows() {
        sentence("Terms 2", "of all MAILS that fit, by KEY, of like ones by ID rising, those from place p on, n at most: MAIN");
        Consumer<Core> way = boxes(1).andThen(c -> {
            putSized(c, 5, 0, 1);
            putSized(c, 4, 9999, 1);
            putSized(c, 5, 1, 0);
            putSized(c, 0, 0, 99);
            putSized(c, 9999, 1, 98);
            putSized(c, 4, 0, 1);
            c.run();
        });
        int[][] by = {{3, 1, 5, 0, 2, 4}, {0, 3, 5, 2, 4, 1}, {2, 0, 1, 5, 4, 3}, {0, 1, 2, 3, 4, 5},
            {4, 0, 2, 1, 5, 3}, {1, 2, 4, 0, 3, 5}, {3, 4, 0, 1, 5, 2}, {5, 4, 3, 2, 1, 0}};
        for (int key = 0; key < 8; key++) {
            for (int p = 0; p <= 7; p++) {
                Core c = after(way);
                for (int n = 0; n <= 7; n++) {
                    c.query(-1, key, p, n);
                }
                c.query(-1, key, p, 99);
                due(c, c.run(), 9);
                for (int k = 0; k <= 8; k++) {
                    int end = Math.min(6, k == 8 ? 6 : p + k);
                    rows(c, k, p > end ? ids() : Arrays.copyOfRange(by[key], p, end), ids(), ids(), ids());
                }
            }
        }
        Core c = after(mails(50));
        int[][] windows = {{0, 99, 50}, {0, 50, 50}, {0, 49, 49}, {49, 99, 1}, {49, 1, 1}, {50, 99, 0}, {99, 99, 0}, {1, 49, 49}};
        for (int[] of : windows) {
            c.query(-1, 3, of[0], of[1]);
        }
        c.run();
        for (int k = 0; k < windows.length; k++) {
            due(c, c.many(k, MAIN), windows[k][2]);
            due(c, c.given(k, MAIN, 0), windows[k][2] == 0 ? -1 : windows[k][0]);
            due(c, c.given(k, MAIN, windows[k][2] - 1), windows[k][2] == 0 ? -1 : windows[k][0] + windows[k][2] - 1);
            due(c, c.given(k, MAIN, windows[k][2]), -1);
        }
        c = after(mails(3));
        c.destroy(MAIL, -1, 0);
        c.query(-1, 7, 0, 99);
        c.query(-1, 3, 1, 1);
        c.run();
        row(c, 1, MAIN, 2, 1);
        row(c, 2, MAIN, 2);
    }

    /** STATES 1 to 8 of BOX: 0 made, 1 made, 0 changed, 1 gone, 2 made, 2 changed, 3 made, 3 gone. */
    private static final Consumer<Core> EIGHT_STATES = c -> {
        putBox(c, 0, NO_ONE);
        putBox(c, 1, NO_ONE);
        c.change(BOX, -1, 0, 2, 1);
        c.destroy(BOX, -1, 1);
        putBox(c, 2, NO_ONE);
        c.change(BOX, -1, 2, 2, 1);
        putBox(c, 3, NO_ONE);
        c.destroy(BOX, -1, 3);
        c.run();
    };

    private static void changesAre(int s, int m, int t, int[] made, int[] changed, int[] gone) {
        Core c = after(EIGHT_STATES);
        c.changes(BOX, s, m);
        due(c, c.run(), 1);
        rows(c, 0, ids(t), made, changed, gone);
    }

    private static void changes() {
        sentence("Terms 2", "CHANGES of a KIND, a STATE s (0 or more), m (1 .. 99): as of a STATE t behind s: MADE: those that"
                + " came behind s, and are there; CHANGED: those that were there at s, are there, and have been changed; GONE:"
                + " those that were there at s, and are not; each by IDS.");
        allGood(EIGHT_STATES, (c, s) -> c.changes(BOX, s, 99), 0, 1, 7, 8);
        allFail(EIGHT_STATES, -2, (c, s) -> c.changes(BOX, s, 99), -1, -2, LEAST);
        allGood(EIGHT_STATES, (c, m) -> c.changes(BOX, 1, m), 1, 2, 98, 99);
        allFail(EIGHT_STATES, -2, (c, m) -> c.changes(BOX, 1, m), 0, -1, 100, LEAST, MOST);
        changesAre(0, 99, 8, ids(0, 2), ids(), ids());
        changesAre(1, 99, 8, ids(2), ids(0), ids());
        changesAre(2, 99, 8, ids(2), ids(0), ids(1));
        changesAre(3, 99, 8, ids(2), ids(), ids(1));
        changesAre(4, 99, 8, ids(2), ids(), ids());
        changesAre(5, 99, 8, ids(), ids(2), ids());
        changesAre(6, 99, 8, ids(), ids(), ids());
        changesAre(7, 99, 8, ids(), ids(), ids(3));
        sentence("Terms 2", "t is the greatest STATE for which these are m at most all together; MAIN: t alone.");
        changesAre(0, 1, 4, ids(0), ids(), ids());
        changesAre(0, 2, 8, ids(0, 2), ids(), ids());
        changesAre(1, 1, 4, ids(), ids(0), ids());
        changesAre(1, 2, 8, ids(2), ids(0), ids());
        changesAre(2, 1, 3, ids(), ids(0), ids());
        changesAre(2, 2, 4, ids(), ids(0), ids(1));
        changesAre(2, 3, 8, ids(2), ids(0), ids(1));
        changesAre(3, 1, 4, ids(), ids(), ids(1));
        changesAre(4, 1, 8, ids(2), ids(), ids());
        changesAre(6, 1, 8, ids(), ids(), ids());
        sentence("Terms 2", "t is the greatest STATE for which these are m at most all together; MAIN: t alone.");
        // KINDS come to like STATES, and a CALL leaves ENTRIES of two of them.
        Consumer<Core> both = mails(2).andThen(d -> {
            d.query(-1, 3, 0, 9);
            d.destroy(MAIL, 0, MAIN);
            d.run();
        });
        Consumer<Core> marked = mails(2).andThen(d -> {
            d.query(-1, 3, 0, 9);
            d.change(MAIL, 0, MAIN, 0, 1);
            d.run();
        });
        for (int kind = MAIL; kind <= THREAD; kind++) {
            int of = kind;
            allFail(both, -6, (d, m) -> d.changes(of, 2, m), 1);
            Core c = after(both);
            c.changes(of, 2, 2);
            c.changes(of, 1, 1);
            c.changes(of, 0, 1);
            due(c, c.run(), 3);
            rows(c, 0, ids(3), ids(), ids(), ids(0, 1));
            rows(c, 1, ids(3), ids(), ids(), ids(0));
            rows(c, 2, ids(3), ids(), ids(), ids());
        }
        allFail(marked, -6, (d, m) -> d.changes(MAIL, 2, m), 1);
        Core two = after(marked);
        two.changes(MAIL, 2, 2);
        two.changes(MAIL, 1, 1);
        two.changes(THREAD, 0, 1);
        due(two, two.run(), 3);
        rows(two, 0, ids(3), ids(), ids(0, 1), ids());
        rows(two, 1, ids(2), ids(1), ids(), ids());
        rows(two, 2, ids(1), ids(0), ids(), ids());
        // THE LOG is full, and the last ENTRY is of another one than those ahead of it.
        Core full = after(boxes(2).andThen(orders(60)));
        full.change(BOX, -1, 1, 2, 7);
        full.changes(BOX, 3, 1);
        full.changes(BOX, 3, 2);
        full.changes(BOX, 62, 1);
        due(full, full.run(), 4);
        rows(full, 1, ids(62), ids(), ids(0), ids());
        rows(full, 2, ids(63), ids(), ids(0, 1), ids());
        rows(full, 3, ids(63), ids(), ids(1), ids());
        sentence("Terms 2", "With s the STATE as it is: t is s.");
        changesAre(8, 1, 8, ids(), ids(), ids());
        changesAre(8, 99, 8, ids(), ids(), ids());
        Core c = new Core();
        for (int kind = BOX; kind <= THREAD; kind++) {
            c.changes(kind, 0, 1);
        }
        due(c, c.run(), 3);
        for (int kind = BOX; kind <= THREAD; kind++) {
            rows(c, kind, ids(0), ids(), ids(), ids());
        }
        c = after(mails(2).andThen(d -> {
            d.make(MAIL, 0);
            d.run();
            d.query(-1, 7, 0, 99);
            d.change(MAIL, 0, MAIN, 0, 1);
            d.changes(MAIL, 2, 99);
            d.destroy(MAIL, 0, MAIN);
            d.changes(MAIL, 0, 99);
            d.changes(MAIL, 1, 99);
            d.changes(MAIL, 3, 99);
            d.changes(THREAD, 1, 99);
            d.changes(THREAD, 2, 99);
            d.changes(BOX, 1, 99);
        }));
        due(c, c.run(), 10);
        rows(c, 2, ids(4), ids(2), ids(0, 1), ids());
        rows(c, 4, ids(5), ids(), ids(), ids());
        rows(c, 5, ids(5), ids(), ids(), ids(0));
        rows(c, 6, ids(5), ids(), ids(), ids(0, 1, 2));
        rows(c, 7, ids(4), ids(), ids(), ids(0));
        rows(c, 8, ids(4), ids(), ids(), ids(0, 1));
        rows(c, 9, ids(2), ids(1), ids(), ids());
    }

    private static void changesThatCanNotBeTold() {
        sentence("Terms 2", "-6: s is above it, an ENTRY of this KIND behind s was driven out, or there is no such t.");
        allFail(EIGHT_STATES, -6, (c, s) -> c.changes(BOX, s, 99), 9, 10, MOST);
        allFail(EIGHT_STATES, -6, (c, s) -> c.changes(MAIL, s, 99), 1);
        allFail(NOTHING, -6, (c, s) -> c.changes(THREAD, s, 99), 1);
        Consumer<Core> three = boxes(3).andThen(c -> {
            c.changes(BOX, 0, 9);
            c.change(BOX, 0, MADE, 2, 1);
            c.run();
        });
        Core many = after(boxes(20));
        many.changes(BOX, 0, 99);
        many.changes(BOX, 19, 99);
        many.changes(BOX, 20, 99);
        many.changes(BOX, 0, 19);
        many.changes(BOX, 0, 20);
        due(many, many.run(), 5);
        due(many, many.many(0, MADE), 20);
        due(many, many.given(0, MAIN, 0), 20);
        rows(many, 1, ids(20), ids(19), ids(), ids());
        rows(many, 2, ids(20), ids(), ids(), ids());
        due(many, many.given(3, MAIN, 0), 19);
        due(many, many.many(3, MADE), 19);
        due(many, many.given(4, MAIN, 0), 20);
        due(many, many.given(4, MADE, 19), 19);
        allFail(three, -6, (c, m) -> c.changes(BOX, 3, m), 1, 2);
        allGood(three, (c, m) -> c.changes(BOX, 3, m), 3, 4);
        allGood(three, (c, m) -> c.changes(BOX, 2, m), 1, 2);
        Core c = after(boxes(1).andThen(orders(59)));
        c.changes(BOX, 0, 1);
        due(c, c.run(), 1);
        rows(c, 0, ids(60), ids(0), ids(), ids());
        fails(boxes(1).andThen(orders(60)), -6, d -> d.changes(BOX, 0, 1));
        c = after(boxes(1).andThen(orders(60)));
        c.changes(BOX, 1, 1);
        due(c, c.run(), 1);
        rows(c, 0, ids(61), ids(), ids(0), ids());
        fails(boxes(1).andThen(orders(61)), -6, d -> d.changes(BOX, 1, 1));
        c = after(boxes(1).andThen(orders(61)));
        c.changes(BOX, 2, 1);
        due(c, c.run(), 1);
        rows(c, 0, ids(62), ids(), ids(0), ids());
        // The first ENTRIES: 2 of BOX, then MAIL (1), THREAD (1), MAIL (2), THREAD (2), and two of MAIL (3).
        Consumer<Core> eight = mails(2).andThen(d -> {
            d.query(-1, 3, 0, 9);
            d.change(MAIL, 0, MAIN, 0, 1);
            d.run();
        });
        for (int out = -1; out <= 8; out++) {
            Consumer<Core> way = eight.andThen(orders(52 + out));
            tellable(way, BOX, 0, out < 1);
            tellable(way, BOX, 1, out < 2);
            tellable(way, MAIL, 0, out < 3);
            tellable(way, THREAD, 0, out < 4);
            tellable(way, MAIL, 1, out < 5);
            tellable(way, THREAD, 1, out < 6);
            tellable(way, MAIL, 2, out < 7);
            tellable(way, BOX, 2, true);
            tellable(way, MAIL, 3, true);
            tellable(way, THREAD, 2, true);
        }
    }

    private static void tellable(Consumer<Core> way, int kind, int s, boolean want) {
        if (want) {
            allGood(way, (c, of) -> c.changes(kind, of, 99), s);
        } else {
            allFail(way, -6, (c, of) -> c.changes(kind, of, 99), s);
        }
    }

    private static void makes() {
        sentence("Terms 2", "MAKE of a KIND (0, 1), ONE ID of a BOX (not looked at for a BOX): by THE DRAFT as it was when"
                + " the CALL was put: MADE: it.");
        Consumer<Core> way = mails(1).andThen(c -> c.draft(0, 50));
        allFail(way, -2, (c, kind) -> c.make(kind, 0), -1, 2, LEAST, MOST);
        allGood(way, (c, kind) -> c.make(kind, 0), 0, 1);
        allGood(way, (c, box) -> c.make(BOX, box), 0, 1, 2, 1000, -1, -12, -13, LEAST, MOST);
        allGood(way, (c, box) -> c.make(MAIL, box), 0, 1);
        allFail(way, -1, (c, box) -> c.make(MAIL, box), 2, 19, 20, 1000, MOST);
        allFail(way, -5, (c, box) -> c.make(MAIL, box), -1, -2, -12, -13, LEAST);
        fails(way.andThen(c -> c.destroy(BOX, -1, 1)), -1, c -> c.make(MAIL, 1));
        Core c = after(way);
        c.draft(2, 3);
        c.make(BOX, 0);
        c.draft(0, 51);
        c.draft(1, 2);
        c.draft(2, 4);
        c.make(BOX, 0);
        c.draft(0, 100);
        c.draft(4, 7);
        c.make(MAIL, -1);
        c.draft(4, 8);
        c.make(MAIL, -2);
        c.draft(4, 1000);
        due(c, c.run(), 4);
        rows(c, 0, ids(), ids(2), ids(), ids());
        rows(c, 3, ids(), ids(2), ids(), ids());
        due(c, c.box(2, 0) * 100 + c.box(2, 2), 5003);
        due(c, c.box(3, 0) * 100 + c.box(3, 2), 5104);
        due(c, c.box(3, 1), 2);
        due(c, c.mail(1, 1), 7);
        due(c, c.mail(2, 1), 8);
        due(c, c.mail(1, 22), 1);
        due(c, c.mail(2, 23), 1);
        // Numbers of THE DRAFT that are another KIND's are not numbers of the CALL.
        c = after(boxes(1));
        for (int what = 3; what < 10; what++) {
            c.draft(what, -1);
        }
        putBox(c, 5, NO_ONE);
        for (int what = 3; what < 10; what++) {
            c.draft(what, 0);
        }
        for (int what = 0; what < 3; what++) {
            c.draft(what, -1);
        }
        c.make(MAIL, 0);
        due(c, c.run(), 2);
    }

    private static void changesOfBoxes() {
        sentence("Terms 2", "CHANGE of a KIND (0, 1), IDS, what, v, one ID behind the other: BOX: 0 NAME becomes v, 1 PARENT"
                + " becomes ONE ID v (1000: none), 2 ORDER becomes v");
        Consumer<Core> way = boxes(3);
        allGood(way, (c, kind) -> c.change(kind, -1, 0, 0, 15), 0);
        allFail(way, -2, (c, kind) -> c.change(kind, -1, 0, 0, 15), -1, 2, LEAST, MOST);
        allGood(way, (c, what) -> c.change(BOX, -1, 0, what, what == 1 ? NO_ONE : 9), 0, 1, 2);
        allFail(way, -2, (c, what) -> c.change(BOX, -1, 0, what, 0), -1, 3, LEAST, MOST);
        allGood(way, (c, v) -> c.change(BOX, -1, 0, 0, v), 0, 98, 99);
        allFail(way, -2, (c, v) -> c.change(BOX, -1, 0, 0, v), -1, 100, NO_ONE, LEAST, MOST);
        allGood(way, (c, v) -> c.change(BOX, -1, 0, 2, v), 0, 1, 8, 9);
        allFail(way, -2, (c, v) -> c.change(BOX, -1, 0, 2, v), -1, 10, LEAST, MOST);
        allGood(way, (c, v) -> c.change(BOX, -1, 0, 1, v), 1, 2, NO_ONE);
        allFail(way, -1, (c, v) -> c.change(BOX, -1, 0, 1, v), 3, 19, 20, 50, 999, 1001, MOST);
        allFail(way, -5, (c, v) -> c.change(BOX, -1, 0, 1, v), -1, -9, -12, -13, LEAST);
        allFail(way, -1, (c, b) -> c.change(BOX, -1, b, 2, 0), 3, 19, 20, 50, NO_ONE, MOST);
        fails(way.andThen(c -> c.destroy(BOX, -1, 2)), -1, c -> c.change(BOX, -1, 0, 1, 2));
        fails(way.andThen(c -> c.destroy(BOX, -1, 2)), -1, c -> c.change(BOX, -1, 2, 2, 0));
        Core c = after(way);
        c.change(BOX, -1, 0, 0, 99);
        c.change(BOX, -1, 0, 2, 9);
        c.change(BOX, -1, 0, 1, 2);
        c.change(BOX, -1, 1, 1, 0);
        due(c, c.run(), 4);
        for (int k = 0; k < 3; k++) {
            rows(c, k, ids(), ids(), ids(0), ids());
        }
        rows(c, 3, ids(), ids(), ids(1), ids());
        due(c, c.box(0, 0), 99);
        due(c, c.box(0, 2), 9);
        due(c, c.box(0, 1), 2);
        due(c, c.box(1, 5), 3);
        c.change(BOX, -1, 0, 1, NO_ONE);
        c.change(BOX, -1, 0, 0, 0);
        c.change(BOX, -1, 0, 2, 0);
        due(c, c.run(), 3);
        due(c, c.box(0, 1), -9);
        due(c, c.box(0, 0) + c.box(0, 2), 0);
        due(c, c.box(1, 5), 2);
        sentence("Terms 2", "one ID behind the other");
        c = after(boxes(4).andThen(d -> {
            d.changes(BOX, 2, 9);
            d.change(BOX, 0, MADE, 1, 0);
            d.change(BOX, 0, MADE, 1, 1);
            d.change(BOX, 0, MADE, 1, 2);
            d.changes(BOX, 1, 9);
        }));
        due(c, c.run(), 4);
        statuses(c, 0, 0, 0, -3, 0);
        row(c, 2, CHANGED, 2, 3);
        due(c, c.box(1, 4), 2);
        // BOX 4 is below 3, and 3 below 2: with 2 below 1, which is 2 deep, 4 is too deep, but not if 3 went ahead.
        Consumer<Core> deep = chain(2).andThen(d -> {
            putBox(d, 12, NO_ONE);
            putBox(d, 13, 2);
            putBox(d, 14, 3);
            d.run();
            for (int m = 0; m < 4; m++) {
                putMail(d, 0, m);
            }
            d.run();
            d.query(-1, 3, 2, 2);
            d.query(-1, 7, 0, 2);
        });
        fails(deep, -3, d -> d.change(BOX, 0, MAIN, 1, 1));
        c = after(deep);
        c.change(BOX, 1, MAIN, 1, 1);
        due(c, c.run(), 3);
        rows(c, 2, ids(), ids(), ids(3, 2), ids());
        due(c, c.box(2, 5) * 100 + c.box(3, 5) * 10 + c.box(4, 5), 334);
    }

    private static void changesOfMails() {
        sentence("Terms 2", "MAIL: 0 MARKS become v, 1 it comes IN a BOX, ONE ID v, 2 it goes out of it: CHANGED: those that"
                + " are other then, in their order, each once.");
        Consumer<Core> way = mails(3).andThen(c -> {
            c.change(MAIL, -1, 1, 1, 1);
            c.change(MAIL, -1, 1, 0, 15);
            c.run();
        });
        allGood(way, (c, what) -> c.change(MAIL, -1, 1, what, 1), 0, 1, 2);
        allFail(way, -2, (c, what) -> c.change(MAIL, -1, 1, what, 1), -1, 3, LEAST, MOST);
        allGood(way, (c, v) -> c.change(MAIL, -1, 0, 0, v), 0, 1, 14, 15);
        allFail(way, -2, (c, v) -> c.change(MAIL, -1, 0, 0, v), -1, 16, LEAST, MOST);
        for (int what = 1; what <= 2; what++) {
            int of = what;
            allGood(way, (c, v) -> c.change(MAIL, -1, 1, of, v), 0, 1);
            allFail(way, -1, (c, v) -> c.change(MAIL, -1, 1, of, v), 2, 19, 20, 32, NO_ONE, MOST);
            allFail(way, -5, (c, v) -> c.change(MAIL, -1, 1, of, v), -1, -12, -13, LEAST);
            allFail(way, -1, (c, m) -> c.change(MAIL, -1, m, of, 1), 3, 49, 50, MOST);
        }
        allFail(way, -1, (c, m) -> c.change(MAIL, -1, m, 0, 1), 3, 49, 50, MOST);
        fails(way.andThen(c -> c.destroy(MAIL, -1, 1)), -1, c -> c.change(MAIL, -1, 1, 0, 1));
        Core c = after(way);
        c.query(-1, 7, 0, 9);
        c.change(MAIL, 0, MAIN, 0, 15);
        c.change(MAIL, 0, MAIN, 0, 15);
        c.change(MAIL, 0, MAIN, 0, 0);
        c.change(MAIL, 0, MAIN, 1, 1);
        c.change(MAIL, 0, MAIN, 1, 1);
        c.change(MAIL, -1, 1, 2, 1);
        c.change(MAIL, 0, MAIN, 1, 0);
        c.change(MAIL, -1, 1, 2, 1);
        c.change(MAIL, -1, 0, 2, 0);
        c.change(MAIL, 4, CHANGED, 2, 1);
        due(c, c.run(), 10);
        row(c, 1, CHANGED, 2, 0);
        row(c, 2, CHANGED);
        row(c, 3, CHANGED, 2, 1, 0);
        row(c, 4, CHANGED, 2, 0);
        row(c, 5, CHANGED);
        row(c, 6, CHANGED, 1);
        row(c, 7, CHANGED);
        row(c, 8, CHANGED);
        row(c, 9, CHANGED, 0);
        due(c, c.status(10), -3);
        due(c, c.state(MAIL), 10);
        due(c, c.box(0, 3) * 10 + c.box(1, 3), 22);
    }

    private static void destroys() {
        sentence("Terms 2", "DESTROY of a KIND (0, 1), IDS, likewise: GONE. (Twice the same: the second time there is no such"
                + " one.)");
        Consumer<Core> way = mails(3).andThen(c -> {
            putBox(c, 2, NO_ONE);
            c.run();
        });
        allGood(way, (c, kind) -> c.destroy(kind, -1, 2), 0, 1);
        allFail(way, -2, (c, kind) -> c.destroy(kind, -1, 2), -1, 2, LEAST, MOST);
        allFail(way, -1, (c, b) -> c.destroy(BOX, -1, b), 3, 19, 20, 50, MOST);
        allFail(way, -1, (c, m) -> c.destroy(MAIL, -1, m), 3, 49, 50, MOST);
        fails(way.andThen(c -> c.destroy(MAIL, -1, 0)), -1, c -> c.destroy(MAIL, -1, 0));
        fails(way.andThen(c -> c.destroy(BOX, -1, 2)), -1, c -> c.destroy(BOX, -1, 2));
        fails(way.andThen(c -> c.destroy(MAIL, -1, 2)), -1, c -> c.destroy(MAIL, 0, GONE));
        Core c = after(way);
        c.query(-1, 7, 0, 9);
        c.destroy(MAIL, 0, MAIN);
        c.destroy(BOX, 1, GONE);
        c.destroy(MAIL, 1, GONE);
        due(c, c.run(), 3);
        rows(c, 1, ids(), ids(), ids(), ids(2, 1, 0));
        rows(c, 2, ids(), ids(), ids(), ids(2, 1, 0));
        due(c, c.status(3), -1);
        due(c, c.told(0) + c.told(1) + c.told(2), 0);
        sentence("Terms 2", "likewise");
        Consumer<Core> below = boxes(3).andThen(d -> {
            d.changes(BOX, 0, 9);
            d.change(BOX, -1, 0, 1, 2);
        });
        c = after(below);
        c.destroy(BOX, 0, MADE);
        due(c, c.run(), 3);
        rows(c, 2, ids(), ids(), ids(), ids(0, 1, 2));
        fails(boxes(3).andThen(d -> {
            d.changes(BOX, 0, 9);
            d.change(BOX, -1, 2, 1, 1);
        }), -3, d -> d.destroy(BOX, 0, MADE));
    }

    private static void theDraft() {
        sentence("Terms 2", "THE DRAFT: of a BOX 0 NAME, 1 PARENT (ONE ID; 1000: none), 2 ORDER; of a MAIL 3 SUBJECT, 4"
                + " NUMBER, 5, 6 what it NAMES (1000: none), 7 SIZE, 8 DATE, 9 MARKS; all 0 at first, but 1, 5, 6: 1000.");
        Core c = new Core();
        for (int what = 0; what < 10; what++) {
            due(c, c.draft(what, what + 1), what == 1 || what == 5 || what == 6 ? 1000 : 0);
        }
        c.draft(1, NO_ONE);
        c.make(BOX, 0);
        c.make(MAIL, -1);
        due(c, c.run(), 2);
        due(c, c.box(0, 0) * 10 + c.box(0, 2), 13);
        for (int what = 0; what <= 6; what++) {
            due(c, c.mail(0, what), what + 4);
        }
        c = new Core();
        c.make(BOX, 0);
        c.make(MAIL, 0);
        due(c, c.run(), 2);
        int[] first = {0, 0, -9, -9, 0, 0, 0};
        for (int what = 0; what < first.length; what++) {
            due(c, c.mail(0, what), first[what]);
        }
        due(c, c.box(0, 0) + c.box(0, 2), 0);
        due(c, c.box(0, 1), -9);
        sentence("Promise 2", "A number of THE DRAFT becomes v: what it was. UNKNOWN: what is not 0 .. 9. (Whether it is as"
                + " told is asked of a CALL.)");
        int[] odd = {-1, 10, 11, LEAST, MOST};
        for (int what : odd) {
            refused(FULL_OF_ALL, -1, d -> d.draft(what, 7));
        }
        c = new Core();
        int[] values = {LEAST, MOST, -1, 100, NO_ONE, 0, 5};
        for (int what = 0; what < 10; what++) {
            int was = c.draft(what, 3);
            due(c, was, what == 1 || what == 5 || what == 6 ? 1000 : 0);
            for (int i = 0; i < values.length; i++) {
                due(c, c.draft(what, values[i]), i == 0 ? 3 : values[i - 1]);
            }
        }
        for (int what = 0; what < 10; what++) {
            due(c, c.draft(what, 0), 5);
        }
    }

    // ---- Terms, 3

    private static void twentyFilters() {
        sentence("Terms 3", "FILTERS, 20 ever, numbered as they come");
        Consumer<Core> nineteen = FULL_OF_ALL.andThen(c -> {
            for (int f = c.told(6); f < 19; f++) {
                due(c, c.filter(f % 8, 0, 0), f);
            }
        });
        Core c = after(nineteen);
        due(c, c.told(6), 19);
        due(c, c.fits(0, 18), 1);
        due(c, c.fits(0, 19), -1);
        due(c, c.filter(10, 18, 0), 19);
        due(c, c.told(6), 20);
        due(c, c.fits(0, 19), 0);
        due(c, c.fits(0, 20), -1);
        Consumer<Core> twenty = nineteen.andThen(d -> d.filter(10, 18, 0));
        for (int kind = 0; kind <= 10; kind++) {
            int of = kind;
            refused(twenty, -4, d -> d.filter(of, 0, 19));
        }
        sentence("Terms 3", "UNKNOWN (there is no such one), OUTSIDE (a number is not as told), FULL, the first of these"
                + " that fits; they change nothing.");
        refused(twenty, -2, d -> d.filter(11, 0, 0));
        refused(twenty, -2, d -> d.filter(5, 4, 0));
        refused(twenty, -1, d -> d.filter(10, 20, 0));
        refused(twenty, -1, d -> d.filter(8, 19, 20));
        refused(twenty, -1, d -> d.filter(9, 20, 19));
        sentence("Promise 21", "A FILTER: its number. UNKNOWN: FILTERS that it is of; OUTSIDE: kind, of 5 a; FULL. (What is"
                + " not told of is not looked at.)");
        int[] kinds = {-1, 11, LEAST, MOST};
        for (int kind : kinds) {
            refused(FULL_OF_ALL, -2, d -> d.filter(kind, 0, 0));
            refused(FULL_OF_ALL, -2, d -> d.filter(kind, -1, -1));
            refused(NOTHING, -2, d -> d.filter(kind, 0, 0));
        }
        int[] marks = {-1, 4, LEAST, MOST};
        for (int mark : marks) {
            refused(FULL_OF_ALL, -2, d -> d.filter(5, mark, 0));
        }
        int[] filters = {-1, 2, 3, 20, LEAST, MOST};
        for (int f : filters) {
            refused(FULL_OF_ALL, -1, d -> d.filter(8, f, 0));
            refused(FULL_OF_ALL, -1, d -> d.filter(8, 1, f));
            refused(FULL_OF_ALL, -1, d -> d.filter(8, f, f));
            refused(FULL_OF_ALL, -1, d -> d.filter(9, f, 0));
            refused(FULL_OF_ALL, -1, d -> d.filter(9, 1, f));
            refused(FULL_OF_ALL, -1, d -> d.filter(10, f, 0));
        }
        refused(NOTHING, -1, d -> d.filter(8, 0, 0));
        refused(NOTHING, -1, d -> d.filter(9, 0, 0));
        refused(NOTHING, -1, d -> d.filter(10, 0, 0));
        int[][] good = {{5, 0, 9}, {5, 3, -9}, {8, 0, 1}, {8, 1, 1}, {9, 0, 1}, {9, 1, 0}, {10, 0, -1}, {10, 1, 99},
            {0, -1, -1}, {1, LEAST, LEAST}, {2, MOST, MOST}, {3, -1, 20}, {4, 10000, 20}, {6, 100, -1}, {7, -1, -1}};
        for (int[] of : good) {
            c = after(FULL_OF_ALL);
            due(c, c.filter(of[0], of[1], of[2]), 2);
            due(c, c.told(6), 3);
        }
    }

    private static void fit(Core c, int kind, int a, int... wants) {
        int f = c.filter(kind, a, 0);
        for (int m = 0; m < wants.length; m++) {
            due(c, c.fits(m, f), wants[m]);
        }
    }

    private static void filtersByNumbers() {
        sentence("Terms 3", "kinds 0 IN BOX a; 1 DATE below a; 2 DATE a or above; 3 SIZE below a; 4 SIZE a or above; 5 it has"
                + " MARK a (0 .. 3); 6 SUBJECT a; 7 of THREAD a");
        Consumer<Core> way = boxes(20).andThen(c -> {
            putSized(c, 0, 9999, 0);
            c.draft(9, 15);
            putSized(c, 9999, 0, 99);
            c.run();
            c.change(MAIL, -1, 1, 1, 19);
            c.change(MAIL, -1, 1, 2, 0);
            c.run();
        });
        Core c = after(way);
        int[][] in = {{0, 1, 0}, {1, 0, 0}, {18, 0, 0}, {19, 0, 1}, {20, 0, 0}, {31, 0, 0}, {32, 0, 0}, {51, 0, 0}, {-1, 0, 0},
            {-13, 0, 0}, {-32, 0, 0}, {LEAST, 0, 0}, {MOST, 0, 0}};
        for (int[] of : in) {
            fit(c, 0, of[0], of[1], of[2]);
        }
        for (int kind = 1; kind <= 3; kind += 2) {
            int[][] below = {{LEAST, 0, 0}, {-1, 0, 0}, {0, 0, 0}, {1, 1, 0}, {9998, 1, 0}, {9999, 1, 0}, {10000, 1, 1},
                {MOST, 1, 1}};
            c = after(way);
            for (int[] of : below) {
                int least = kind == 1 ? of[1] : of[2];
                int most = kind == 1 ? of[2] : of[1];
                fit(c, kind, of[0], least, most);
                fit(c, kind + 1, of[0], 1 - least, 1 - most);
            }
        }
        c = after(way);
        for (int mark = 0; mark <= 3; mark++) {
            fit(c, 5, mark, 0, 1);
        }
        int[][] like = {{-1, 0, 0}, {0, 1, 0}, {1, 0, 0}, {98, 0, 0}, {99, 0, 1}, {100, 0, 0}, {LEAST, 0, 0}, {MOST, 0, 0}};
        for (int[] of : like) {
            fit(c, 6, of[0], of[1], of[2]);
        }
        c = after(way);
        int[][] threads = {{-1, 0, 0}, {0, 1, 0}, {1, 0, 1}, {2, 0, 0}, {49, 0, 0}, {LEAST, 0, 0}, {MOST, 0, 0}};
        for (int[] of : threads) {
            fit(c, 7, of[0], of[1], of[2]);
        }
        c = after(way);
        for (int mark = 0; mark <= 3; mark++) {
            c.filter(5, mark, 0);
        }
        for (int marks = 0; marks <= 15; marks++) {
            c.change(MAIL, -1, 0, 0, marks);
            c.run();
            for (int mark = 0; mark <= 3; mark++) {
                due(c, c.fits(0, mark), marks >> mark & 1);
            }
        }
    }

    private static void filtersOfFilters() {
        sentence("Terms 3", "8 both of FILTERS a, b; 9 one of a, b; 10 not a.");
        Core c = after(mails(4));
        for (int m = 0; m < 4; m++) {
            c.change(MAIL, -1, m, 0, m);
        }
        c.run();
        due(c, c.filter(5, 0, 0), 0);
        due(c, c.filter(5, 1, 0), 1);
        due(c, c.filter(8, 0, 1), 2);
        due(c, c.filter(9, 0, 1), 3);
        due(c, c.filter(10, 0, 1), 4);
        due(c, c.filter(10, 4, 0), 5);
        due(c, c.filter(8, 3, 4), 6);
        due(c, c.filter(9, 2, 4), 7);
        due(c, c.filter(8, 1, 1), 8);
        due(c, c.filter(9, 1, 1), 9);
        due(c, c.filter(8, 0, 4), 10);
        due(c, c.filter(9, 4, 0), 11);
        int[][] wants = {{0, 1, 0, 1}, {0, 0, 1, 1}, {0, 0, 0, 1}, {0, 1, 1, 1}, {1, 0, 1, 0}, {0, 1, 0, 1}, {0, 0, 1, 0},
            {1, 0, 1, 1}, {0, 0, 1, 1}, {0, 0, 1, 1}, {0, 0, 0, 0}, {1, 1, 1, 1}};
        for (int f = 0; f < wants.length; f++) {
            for (int m = 0; m < 4; m++) {
                due(c, c.fits(m, f), wants[f][m]);
            }
        }
        // The longest way down: 19 times not.
        c = after(mails(1));
        c.filter(2, 0, 0);
        for (int f = 1; f < 20; f++) {
            c.filter(10, f - 1, 0);
            due(c, c.fits(0, f), 1 - f % 2);
        }
        c.query(18, 0, 0, 9);
        c.query(19, 0, 0, 9);
        due(c, c.run(), 2);
        row(c, 0, MAIN, 0);
        row(c, 1, MAIN);
        sentence("Promise 22", "Whether a MAIL fits: 1, 0. UNKNOWN: MAIL, FILTER.");
        int[] mails = {-1, 1, 3, 50, LEAST, MOST};
        for (int m : mails) {
            refused(FULL_OF_ALL, -1, d -> d.fits(m, 0));
            refused(FULL_OF_ALL, -1, d -> d.fits(m, 2));
        }
        int[] filters = {-1, 2, 20, 32, LEAST, MOST};
        for (int f : filters) {
            refused(FULL_OF_ALL, -1, d -> d.fits(0, f));
        }
        c = after(FULL_OF_ALL);
        due(c, c.fits(0, 0), 1);
        due(c, c.fits(0, 1), 0);
        due(c, c.fits(2, 0), 1);
        due(c, c.fits(2, 1), 0);
    }

    // ---- Promises

    private static void newObject() {
        sentence("Promise 1", "Nothing is there; STATES 0.");
        Core c = new Core();
        for (int what = 0; what <= 12; what++) {
            due(c, c.told(what), what <= 6 || what >= 10 ? 0 : -2);
        }
        for (int kind = BOX; kind <= THREAD; kind++) {
            due(c, c.state(kind), 0);
        }
        due(c, c.box(0, 0), -1);
        due(c, c.mail(0, 0), -1);
        due(c, c.thread(0, -1), -1);
        due(c, c.thread(0, 0), -1);
        due(c, c.entry(0, 0), -1);
        due(c, c.fits(0, 0), -1);
        due(c, c.status(0), -9);
        due(c, c.many(0, 0), -1);
        due(c, c.given(0, 0, 0), -1);
        due(c, c.drop(), 0);
        due(c, c.run(), 0);
        sentence("Terms 3", "NONE is -9.");
        due(c, MailCore.UNKNOWN, -1);
        due(c, MailCore.OUTSIDE, -2);
        due(c, MailCore.FULL, -4);
        due(c, MailCore.NONE, -9);
        sentence("What it is", "An object is used for at most 512 calls after it has been made");
        c = after(boxes(20));
        for (int i = 0; c.trail.size() < MOST_CALLS - 2; i++) {
            due(c, c.told(10), 20);
        }
        c.destroy(BOX, -1, 19);
        due(c, c.run(), 1);
    }

    /** So many CALLS of which each changes something. */
    private static Consumer<Core> puts(int count) {
        return c -> {
            for (int k = 0; k < count; k++) {
                switch (k % 6) {
                    case 0: c.make(MAIL, 1); break;
                    case 1: c.change(BOX, -1, 0, 2, 1 + k); break;
                    case 2: c.destroy(MAIL, -1, k / 6 * 2); break;
                    case 3: putBox(c, 40 + k, 0); break;
                    case 4: c.query(0, 4, 0, 9); break;
                    default: c.change(MAIL, -1, -1 - k / 6 * 6, 0, k);
                }
            }
        };
    }

    private static void crashes() {
        sentence("Promise 9", "The next run() is cut behind n CALLS (if it has so many, or fewer: behind all): 1. OUTSIDE: n is"
                + " not 0 .. 12.");
        Consumer<Core> way = FULL_OF_ALL.andThen(Core::run);
        int[] all = {0, 1, 2, 11, 12};
        for (int count : all) {
            Consumer<Core> done = way.andThen(puts(count)).andThen(c -> due(c, c.run(), count));
            for (int n : all) {
                cut(way, puts(count), n);
                Consumer<Core> again = way.andThen(puts(count)).andThen(c -> c.crash(n)).andThen(Core::run)
                        .andThen(puts(count)).andThen(Core::run);
                same("the run behind one that was cut", all(again), all(done));
            }
        }
        int[] odd = {-1, 13, 14, LEAST, MOST};
        for (int n : odd) {
            refused(FULL_OF_ALL, -2, c -> c.crash(n));
            refused(FULL_OF_ALL.andThen(c -> c.crash(1)), -2, c -> c.crash(n));
        }
        for (int n = 0; n <= 12; n++) {
            Core c = after(boxes(1));
            due(c, c.crash(n), 1);
            due(c, c.crash(12 - n), 1);
            c.change(BOX, -1, 0, 2, 5);
            due(c, c.told(3), 1);
            due(c, c.run(), -9);
            due(c, c.box(0, 2), 0);
            c.change(BOX, -1, 0, 2, 5);
            due(c, c.run(), 1);
            due(c, c.box(0, 2), 5);
        }
        Core c = after(boxes(1));
        due(c, c.crash(12), 1);
        c.get(BOX, -1, 0);
        due(c, c.drop(), 1);
        due(c, c.run(), -9);
        due(c, c.run(), 0);
    }

    private static void cut(Consumer<Core> way, Consumer<Core> puts, int n) {
        sentence("Promise 10", "NONE: it was cut: all is as it was ahead of it (but for the CALLS, which are none; the IDS are"
                + " as if never given), and there is nothing of the REQUEST to be told.");
        Consumer<Core> with = way.andThen(puts).andThen(c -> due(c, c.crash(n), 1)).andThen(c -> due(c, c.run(), -9));
        same("things behind a cut", things(with), things(way));
        Core c = after(with);
        due(c, c.told(3), 0);
        due(c, c.told(4), 0);
        for (int k = 0; k <= 12; k++) {
            due(c, c.status(k), -9);
            due(c, c.many(k, MADE), -1);
            due(c, c.given(k, MADE, 0), -1);
        }
        due(c, c.drop(), 0);
        due(c, c.run(), 0);
        // What is put changes THE DRAFT; the cut does not bring it back.
        Eye put = new Eye(way.andThen(puts));
        seeDrafts(put);
        Eye behind = new Eye(with);
        seeDrafts(behind);
        same("THE DRAFT behind a cut", behind.seen, put.seen);
    }

    private static void runs() {
        sentence("Promise 10", "All CALLS are done: how many have STATUS 0");
        Core c = after(boxes(2));
        due(c, c.run(), 0);
        due(c, c.told(4), 0);
        for (int good = 0; good <= 12; good++) {
            for (int k = 0; k < 12; k++) {
                c.get(k < good ? BOX : 3, -1, 0);
            }
            due(c, c.run(), good);
            due(c, c.told(4), 12);
            due(c, c.told(3), 0);
            due(c, c.status(11), good == 12 ? 0 : -2);
            due(c, c.status(0), good == 0 ? -2 : 0);
        }
        c.get(BOX, -1, 0);
        due(c, c.run(), 1);
        due(c, c.told(4), 1);
        due(c, c.status(1), -9);
        due(c, c.run(), 0);
        due(c, c.told(4), 0);
        due(c, c.status(0), -9);
        sentence("Promise 11", "CALLS are none: how many were.");
        for (int count = 0; count <= 12; count++) {
            c = after(boxes(2).andThen(d -> d.get(BOX, -1, 1)).andThen(Core::run));
            for (int k = 0; k < count; k++) {
                due(c, c.destroy(BOX, -1, 1), k);
            }
            due(c, c.drop(), count);
            due(c, c.told(3), 0);
            due(c, c.told(4), 1);
            row(c, 0, MAIN, 1);
            due(c, c.drop(), 0);
            due(c, c.get(BOX, -1, 0), 0);
            due(c, c.run(), 1);
            row(c, 0, MAIN, 0);
            due(c, c.told(0), 2);
        }
    }

    private static void outcomesAreTold() {
        Consumer<Core> way = mails(3).andThen(c -> {
            c.query(-1, 7, 0, 9);
            c.changes(BOX, 0, 9);
            c.get(3, -1, 0);
            c.run();
            c.get(BOX, -1, 0);
        });
        int[] calls = {-1, 3, 11, 12, 13, LEAST, MOST};
        for (int k : calls) {
            sentence("Promise 12", "STATUS of a CALL. NONE: there is none such.");
            refused(way, -9, c -> c.status(k));
            sentence("Promise 13", "How many are in row r of it. UNKNOWN.");
            refused(way, -1, c -> c.many(k, 0));
            sentence("Promise 14", "The i-th of them. UNKNOWN.");
            refused(way, -1, c -> c.given(k, 0, 0));
        }
        int[] rows = {-1, 4, LEAST, MOST};
        for (int r : rows) {
            refused(way, -1, c -> c.given(1, r, 0));
            sentence("Promise 13", "How many are in row r of it. UNKNOWN.");
            refused(way, -1, c -> c.many(1, r));
            refused(way, -1, c -> c.many(2, r));
            sentence("Promise 14", "The i-th of them. UNKNOWN.");
        }
        int[] places = {-1, 3, 49, 50, LEAST, MOST};
        for (int i : places) {
            refused(way, -1, c -> c.given(0, MAIN, i));
        }
        refused(way, -1, c -> c.given(0, MADE, 0));
        refused(way, -1, c -> c.given(2, MAIN, 0));
        Core c = after(way);
        due(c, c.status(0), 0);
        due(c, c.status(1), 0);
        due(c, c.status(2), -2);
        due(c, c.status(3), -9);
        rows(c, 0, ids(2, 1, 0), ids(), ids(), ids());
        rows(c, 1, ids(2), ids(0, 1), ids(), ids());
        for (int r = MAIN; r <= GONE; r++) {
            due(c, c.many(2, r), 0);
        }
        c = after(way.andThen(Core::run));
        due(c, c.status(0), 0);
        due(c, c.status(1), -9);
        due(c, c.many(1, MADE), -1);
        due(c, c.given(0, MAIN, 0), 0);
        due(c, c.given(0, MAIN, 1), -1);
    }

    private static void statesAndNumbersTold() {
        sentence("Promise 15", "STATE of a KIND. UNKNOWN.");
        int[] kinds = {-1, 3, LEAST, MOST};
        for (int kind : kinds) {
            refused(FULL_OF_ALL, -1, c -> c.state(kind));
        }
        Core c = after(FULL_OF_ALL);
        stateOfEach(c, 2, 4, 4);
        sentence("Promise 16", "How many: 0 .. 2 of a KIND that are there; 3 CALLS that are put, 4 CALLS of the latest run(), 5"
                + " ENTRIES, 6 FILTERS; 10 .. 12 of a KIND that were ever. OUTSIDE.");
        int[] whats = {-1, 7, 8, 9, 13, LEAST, MOST};
        for (int what : whats) {
            refused(FULL_OF_ALL, -2, d -> d.told(what));
        }
        int[] wants = {2, 2, 2, 2, 3, 10, 2, -2, -2, -2, 2, 3, 3, -2};
        for (int what = 0; what < wants.length; what++) {
            due(c, c.told(what), wants[what]);
        }
        c.destroy(MAIL, -1, 3);
        c.destroy(BOX, -1, 1);
        due(c, c.run(), 4);
        due(c, c.told(0), 1);
        due(c, c.told(1), 2);
        due(c, c.told(2), 2);
        due(c, c.told(3), 0);
        due(c, c.told(4), 4);
        due(c, c.told(10), 2);
        due(c, c.told(11), 4);
        due(c, c.told(12), 3);
    }

    private static void boxesAreTold() {
        sentence("Promise 17", "Of a BOX: 0 NAME, 1 PARENT (NONE), 2 ORDER, 3 how many MAILS are IN it, 4 of how many it is the"
                + " PARENT, 5 how deep it is. UNKNOWN; OUTSIDE.");
        Consumer<Core> way = chain(4).andThen(c -> {
            putBox(c, 50, 0);
            c.draft(2, 9);
            putBox(c, 99, 0);
            c.make(MAIL, 5);
            c.make(MAIL, 5);
            c.make(MAIL, 3);
            c.change(MAIL, -1, 0, 1, 3);
            c.destroy(BOX, -1, 4);
            c.run();
        });
        int[][] wants = {{0, -9, 0, 0, 2, 1}, {1, 0, 0, 0, 1, 2}, {2, 1, 0, 0, 1, 3}, {3, 2, 0, 2, 0, 4}, null,
            {99, 0, 9, 2, 0, 2}};
        Core c = after(way);
        for (int b = 0; b < wants.length; b++) {
            for (int what = 0; what < 6; what++) {
                due(c, c.box(b, what), wants[b] == null ? -1 : wants[b][what]);
            }
        }
        int[] none = {-1, 4, 6, 19, 20, 49, 50, LEAST, MOST};
        for (int b : none) {
            refused(way, -1, d -> d.box(b, 0));
            refused(way, -1, d -> d.box(b, 6));
            refused(way, -1, d -> d.box(b, 3));
            refused(way, -1, d -> d.box(b, 5));
        }
        int[] odd = {-1, 6, 7, LEAST, MOST};
        for (int what : odd) {
            refused(way, -2, d -> d.box(0, what));
            refused(way, -2, d -> d.box(5, what));
        }
        c.destroy(MAIL, -1, 0);
        c.change(MAIL, -1, 1, 1, 0);
        c.run();
        due(c, c.box(0, 3), 1);
        due(c, c.box(3, 3), 1);
        due(c, c.box(5, 3), 1);
    }

    private static void mailsAreTold() {
        sentence("Promise 18", "Of a MAIL: 0 SUBJECT, 1 NUMBER, 2, 3 what it NAMES (NONE), 4 SIZE, 5 DATE, 6 MARKS, 7 THREAD, 8 in"
                + " how many BOXES it is, 20 and b: whether it is IN BOX b (1, 0). UNKNOWN; OUTSIDE: other ones, BOXES that"
                + " are not there.");
        Consumer<Core> way = boxes(3).andThen(c -> {
            c.make(MAIL, 0);
            c.draft(7, 11);
            c.draft(8, 12);
            c.draft(9, 13);
            putMail(c, 21, 22, 23, NO_ONE);
            putMail(c, 21, 24, NO_ONE, 25);
            c.destroy(MAIL, -1, 0);
            c.destroy(BOX, -1, 1);
            c.change(MAIL, -1, 2, 1, 2);
            c.run();
        });
        Core c = after(way);
        int[][] wants = {{21, 22, 23, -9, 11, 12, 13, 1, 1}, {21, 24, -9, 25, 11, 12, 13, 2, 2}};
        for (int m = 1; m <= 2; m++) {
            for (int what = 0; what <= 8; what++) {
                due(c, c.mail(m, what), wants[m - 1][what]);
            }
        }
        due(c, c.mail(1, 20), 1);
        due(c, c.mail(1, 21), -2);
        due(c, c.mail(1, 22), 0);
        due(c, c.mail(2, 20), 1);
        due(c, c.mail(2, 22), 1);
        int[] none = {-1, 0, 3, 49, 50, LEAST, MOST};
        for (int m : none) {
            refused(way, -1, d -> d.mail(m, 0));
            refused(way, -1, d -> d.mail(m, 8));
            refused(way, -1, d -> d.mail(m, 9));
            refused(way, -1, d -> d.mail(m, 20));
        }
        int[] odd = {-1, 9, 10, 19, 21, 23, 39, 40, 52, LEAST, LEAST + 19, MOST};
        for (int what : odd) {
            refused(way, -2, d -> d.mail(1, what));
        }
        c = after(boxes(20).andThen(d -> d.make(MAIL, 19)).andThen(Core::run));
        due(c, c.mail(0, 38), 0);
        due(c, c.mail(0, 39), 1);
        due(c, c.mail(0, 40), -2);
        due(c, c.mail(0, 19), -2);
    }

    private static void threadsAreTold() {
        sentence("Promise 19", "Of a THREAD: its i-th MAIL by IDS; -1 (i): how many. UNKNOWN: THREAD, place.");
        Consumer<Core> way = boxes(1).andThen(c -> {
            int[] numbers = {1, 2, 1, 3, 1, 2};
            for (int number : numbers) {
                putMail(c, 0, number);
            }
            c.destroy(MAIL, -1, 2);
            c.destroy(MAIL, -1, 3);
            c.run();
        });
        Core c = after(way);
        int[][] wants = {{0, 4}, {1, 5}};
        for (int t = 0; t < 2; t++) {
            due(c, c.thread(t, -1), 2);
            due(c, c.thread(t, 0), wants[t][0]);
            due(c, c.thread(t, 1), wants[t][1]);
        }
        int[] none = {-1, 2, 3, 49, 50, LEAST, MOST};
        for (int t : none) {
            refused(way, -1, d -> d.thread(t, -1));
            refused(way, -1, d -> d.thread(t, 0));
        }
        int[] places = {-2, 2, 3, 50, LEAST, MOST};
        for (int i : places) {
            refused(way, -1, d -> d.thread(0, i));
            refused(way, -1, d -> d.thread(1, i));
        }
        c = after(boxes(1).andThen(d -> {
            for (int m = 0; m < 50; m++) {
                if (d.make(MAIL, 0) == 11) {
                    d.run();
                }
            }
            d.run();
        }));
        due(c, c.thread(0, -1), 50);
        for (int i = 0; i < 50; i++) {
            due(c, c.thread(0, i), i);
        }
        due(c, c.thread(0, 50), -1);
    }

    private static void entriesAreTold() {
        sentence("Promise 20", "ENTRY i, the eldest first: 0 KIND, 1 STATE, 2 ID, 3 what (1 MADE, 2 CHANGED, 3 GONE). UNKNOWN;"
                + " OUTSIDE.");
        Consumer<Core> way = mails(1).andThen(c -> {
            c.change(MAIL, -1, 0, 0, 1);
            c.destroy(MAIL, -1, 0);
            c.run();
        });
        entries(after(way), 0, ids(0, 1, 0, 1), ids(0, 2, 1, 1), ids(1, 1, 0, 1), ids(2, 1, 0, 1), ids(1, 2, 0, 2),
                ids(1, 3, 0, 3), ids(2, 2, 0, 3));
        int[] none = {-1, 7, 59, 60, LEAST, MOST};
        for (int i : none) {
            refused(way, -1, c -> c.entry(i, 0));
            refused(way, -1, c -> c.entry(i, 4));
        }
        int[] odd = {-1, 4, LEAST, MOST};
        for (int what : odd) {
            refused(way, -2, c -> c.entry(0, what));
            refused(way, -2, c -> c.entry(6, what));
        }
        Consumer<Core> full = way.andThen(orders(60));
        int[] outside = {-1, 60, 61, LEAST, MOST};
        for (int i : outside) {
            refused(full, -1, c -> c.entry(i, 0));
        }
        Core c = after(full);
        due(c, c.entry(0, 1), 3);
        due(c, c.entry(59, 1), 62);
        refused(NOTHING, -1, d -> d.entry(0, 0));
        refused(NOTHING, -1, d -> d.entry(0, 4));
    }

    private static void allOfTerms() {
        kinds();
        idsNeverComeAgain();
        twentyBoxes();
        numbersOfABox();
        fiftyMails();
        numbersOfAMail();
        inOneBoxOrMore();
        threadsGather();
        threadsAreThereWhileTheyHaveMails();
        namesOfBoxes();
        fourDeep();
        boxesThatMayNotBeDestroyed();
        states();
        entriesByKindsThenByIds();
        sixtyEntries();
        twelveCalls();
        numbersOfACallAreItsOwn();
        failedCallsChangeNothing();
        statusIsTheFirstThatFits();
        callsThatAreNamed();
        emptyRows();
        oneId();
        gets();
        queries();
        sortedInWindows();
        changes();
        changesThatCanNotBeTold();
        makes();
        changesOfBoxes();
        changesOfMails();
        destroys();
        theDraft();
        twentyFilters();
        filtersByNumbers();
        filtersOfFilters();
    }

    private static void allOfPromises() {
        newObject();
        crashes();
        runs();
        outcomesAreTold();
        statesAndNumbersTold();
        boxesAreTold();
        mailsAreTold();
        threadsAreTold();
        entriesAreTold();
    }

    public static void main(String[] args) throws Exception {
        Path path = Path.of("../shared/DOC.md");
        if (Files.isReadable(path)) {
            document = Files.readString(path).replaceAll("\\s+", " ");
        }
        allOfTerms();
        allOfPromises();
        System.out.println(sentences + " times a sentence was taken, " + checks + " checks, " + wrong + " wrong");
        if (wrong != 0) {
            System.exit(1);
        }
    }
}
