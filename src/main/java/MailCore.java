/** The core of a mail server, as ../shared/DOC.md tells it; words in capitals are that document's. */
public final class MailCore {
    public static final int UNKNOWN = -1, OUTSIDE = -2, FULL = -4, NONE = -9;

    private static final int BOX = 0, MAIL = 1, THREAD = 2, KINDS = 3;

    // What became of one, in THE LOG; the rows of IDS that a CALL gives bear the same numbers.
    private static final int MAIN = 0, MADE = 1, CHANGED = 2, GONE = 3, ROWS = 4;

    private static final int GET = 0, QUERY = 1, CHANGES = 2, MAKE = 3, CHANGE = 4, DESTROY = 5;

    // What a STATUS says.
    private static final int DONE = 0, NO_SUCH = -1, NOT_AS_TOLD = -2, MAY_NOT = -3, NO_ROOM = -4;
    private static final int CALL_FAILS = -5, NOT_TELLABLE = -6;

    private static final int CALLS = 12, BOXES = 20, MAILS = 50, FILTERS = 20, ENTRIES = 60, DEEPEST = 4;

    // A KIND has 50 IDS at most: each MAIL brings one THREAD at most, and of BOXES there are fewer.
    private static final int ROOM = 50;

    // Columns of a BOX (as box() and CHANGE number them), of a MAIL (as mail() does), of a THREAD; of all.
    private static final int NAME = 0, PARENT = 1, ORDER = 2;
    private static final int SUBJECT = 0, NUMBER = 1, NAMES = 2, ALSO_NAMES = 3, SIZE = 4, DATE = 5;
    private static final int MARKS = 6, THREAD_OF = 7, IN = 8;
    private static final int HOLDS = 0;
    private static final int THERE = 9, COLUMNS = 10;

    // THE DRAFT has a BOX's columns first, then those of a MAIL; 1000 says that there is none.
    private static final int OF_MAIL = 3, DRAFTS = 10, NO_ONE = 1000;
    private static final int[] DRAFT_TOP = {99, 0, 9, 99, 999, 1000, 1000, 9999, 9999, 15};

    // Columns of an ENTRY, as entry() numbers them.
    private static final int OF_KIND = 0, AT_STATE = 1, OF_ID = 2, WHAT = 3, ENTRY_COLUMNS = 4;

    private final int[] drafted = new int[DRAFTS];
    private final Call[] calls = new Call[CALLS];
    private final Outcome[] outcomes = new Outcome[CALLS];
    private final Kind boxes = new Kind(BOXES);
    private final Kind mails = new Kind(MAILS);
    private final Kind threads = new Kind(MAILS);
    private final Log log = new Log();
    private final Filters filters = new Filters();

    // The IDS that the CALL under way is about.
    private final int[] ids = new int[ROOM];
    private int idCount;

    private int putCount;
    private int doneCount;
    private boolean crashing;

    public MailCore() {
        for (int k = 0; k < CALLS; k++) {
            calls[k] = new Call();
            outcomes[k] = new Outcome();
        }
        drafted[PARENT] = NO_ONE;
        drafted[OF_MAIL + NAMES] = NO_ONE;
        drafted[OF_MAIL + ALSO_NAMES] = NO_ONE;
    }

    // ---- calls

    public int draft(int what, int v) {
        if (what < 0 || what >= DRAFTS) {
            return UNKNOWN;
        }
        int was = drafted[what];
        drafted[what] = v;
        return was;
    }

    public int get(int kind, int c, int r) {
        return putOfIds(GET, kind, c, r, 0, 0);
    }

    public int query(int f, int key, int p, int n) {
        if (putCount >= CALLS) {
            return FULL;
        }
        Call call = calls[putCount];
        call.begin(QUERY, MAIL);
        call.filterId = f;
        call.key = key;
        call.place = p;
        call.most = n;
        return putCount++;
    }

    public int changes(int kind, int s, int m) {
        if (putCount >= CALLS) {
            return FULL;
        }
        Call call = calls[putCount];
        call.begin(CHANGES, kind);
        call.since = s;
        call.most = m;
        return putCount++;
    }

    public int make(int kind, int box) {
        if (putCount >= CALLS) {
            return FULL;
        }
        Call call = calls[putCount];
        call.begin(MAKE, kind);
        call.v = box;
        System.arraycopy(drafted, 0, call.drafted, 0, DRAFTS);
        return putCount++;
    }

    public int change(int kind, int c, int r, int what, int v) {
        return putOfIds(CHANGE, kind, c, r, what, v);
    }

    public int destroy(int kind, int c, int r) {
        return putOfIds(DESTROY, kind, c, r, 0, 0);
    }

    /** Behind how many CALLS the cut comes is not kept: whatever was done by then is undone, so nothing tells it. */
    public int crash(int n) {
        if (n < 0 || n > CALLS) {
            return OUTSIDE;
        }
        crashing = true;
        return 1;
    }

    public int run() {
        int count = putCount;
        putCount = 0;
        doneCount = 0;
        if (crashing) {
            crashing = false;
            return NONE;
        }
        int good = 0;
        for (int k = 0; k < count && k < CALLS; k++) {
            outcomes[k].clear();
            int code = refusalOf(calls[k], k);
            if (code == DONE) {
                code = act(calls[k], outcomes[k]);
            }
            if (code == DONE) {
                logTouched();
                good++;
            } else {
                outcomes[k].clear();
            }
            outcomes[k].code = code;
        }
        doneCount = count;
        return good;
    }

    public int drop() {
        int count = putCount;
        putCount = 0;
        return count;
    }

    // ---- what the latest run() gave

    public int status(int k) {
        if (k < 0 || k >= doneCount || k >= CALLS) {
            return NONE;
        }
        return outcomes[k].code;
    }

    public int many(int k, int r) {
        if (k < 0 || k >= doneCount || k >= CALLS) {
            return UNKNOWN;
        }
        return outcomes[k].count(r);
    }

    public int given(int k, int r, int i) {
        if (k < 0 || k >= doneCount || k >= CALLS) {
            return UNKNOWN;
        }
        return outcomes[k].at(r, i);
    }

    // ---- what is there

    public int state(int kind) {
        return isKind(kind) ? kindOf(kind).changeCount : UNKNOWN;
    }

    public int told(int what) {
        switch (what) {
            case 0:
            case 1:
            case 2:
                return kindOf(what).howMany();
            case 3:
                return putCount;
            case 4:
                return doneCount;
            case 5:
                return log.count;
            case 6:
                return filters.count;
            case 10:
            case 11:
            case 12:
                return kindOf(what - 10).ever;
            default:
                return OUTSIDE;
        }
    }

    public int box(int b, int what) {
        if (!boxes.isThere(b)) {
            return UNKNOWN;
        }
        switch (what) {
            case NAME:
            case PARENT:
            case ORDER:
                return boxes.value(b, what);
            case 3:
                return mailsIn(b);
            case 4:
                return boxes.howManyWith(PARENT, b);
            case 5:
                return depthOf(b);
            default:
                return OUTSIDE;
        }
    }

    public int mail(int m, int what) {
        if (!mails.isThere(m)) {
            return UNKNOWN;
        }
        if (what >= SUBJECT && what <= THREAD_OF) {
            return mails.value(m, what);
        }
        if (what == 8) {
            return Integer.bitCount(mails.value(m, IN));
        }
        if (what >= 20 && boxes.isThere(what - 20)) {
            return isIn(m, what - 20) ? 1 : 0;
        }
        return OUTSIDE;
    }

    public int thread(int t, int i) {
        if (!threads.isThere(t)) {
            return UNKNOWN;
        }
        if (i == -1) {
            return threads.value(t, HOLDS);
        }
        return mails.idWith(THREAD_OF, t, i);
    }

    public int entry(int i, int what) {
        if (i < 0 || i >= log.count) {
            return UNKNOWN;
        }
        if (what < 0 || what >= ENTRY_COLUMNS) {
            return OUTSIDE;
        }
        return log.at(i, what);
    }

    // ---- filters

    public int filter(int kind, int a, int b) {
        boolean both = kind == Filters.BOTH || kind == Filters.EITHER;
        if ((both || kind == Filters.NOT) && !filters.isThere(a) || both && !filters.isThere(b)) {
            return UNKNOWN;
        }
        if (kind < 0 || kind > Filters.NOT || kind == Filters.MARKED && (a < 0 || a > 3)) {
            return OUTSIDE;
        }
        return filters.add(kind, a, b);
    }

    public int fits(int m, int f) {
        if (!mails.isThere(m) || !filters.isThere(f)) {
            return UNKNOWN;
        }
        return passes(m, f) ? 1 : 0;
    }

    // ---- CALLS: are they as told, and do those that they name stand

    private int putOfIds(int task, int kind, int c, int r, int what, int v) {
        if (putCount >= CALLS) {
            return FULL;
        }
        Call call = calls[putCount];
        call.begin(task, kind);
        call.c = c;
        call.r = r;
        call.what = what;
        call.v = v;
        return putCount++;
    }

    private static boolean isWithin(int v, int least, int most) {
        return v >= least && v <= most;
    }

    private static boolean isKind(int kind) {
        return isWithin(kind, 0, KINDS - 1);
    }

    private static boolean isAsTold(Call call) {
        switch (call.task) {
            case GET:
                return isKind(call.kind) && areIdsAsTold(call);
            case QUERY:
                return call.filterId >= -1 && isWithin(call.key, 0, 7)
                        && isWithin(call.place, 0, 99) && isWithin(call.most, 0, 99);
            case CHANGES:
                return isKind(call.kind) && call.since >= 0 && isWithin(call.most, 1, 99);
            case MAKE:
                return isDraftAsTold(call);
            case CHANGE:
                return areIdsAsTold(call) && isChangeAsTold(call);
            default:
                return isWithin(call.kind, BOX, MAIL) && areIdsAsTold(call);
        }
    }

    private static boolean areIdsAsTold(Call call) {
        return call.c == -1 || call.c >= 0 && isWithin(call.r, 0, ROWS - 1);
    }

    private static boolean isDraftAsTold(Call call) {
        if (call.kind == BOX) {
            return isDraftedWithin(call, NAME) && isDraftedWithin(call, ORDER);
        }
        boolean good = call.kind == MAIL;
        for (int i = OF_MAIL; i < DRAFTS; i++) {
            good = good && isDraftedWithin(call, i);
        }
        return good;
    }

    private static boolean isDraftedWithin(Call call, int i) {
        return isWithin(call.drafted[i], 0, DRAFT_TOP[i]);
    }

    private static boolean isChangeAsTold(Call call) {
        if (!isWithin(call.kind, BOX, MAIL) || !isWithin(call.what, 0, 2)) {
            return false;
        }
        if (tellsOneByV(call)) {
            return true;
        }
        int top = call.kind == MAIL ? 15 : call.what == NAME ? 99 : 9;
        return isWithin(call.v, 0, top);
    }

    /** Whether v of a CHANGE is ONE ID and not a number to be taken as it is. */
    private static boolean tellsOneByV(Call call) {
        return call.kind == BOX ? call.what == PARENT : call.what != 0;
    }

    /** The ONE ID that a CALL tells beside its IDS; 0, which names no CALL, if it tells none. */
    private static int oneBeside(Call call) {
        if (call.task == MAKE) {
            return call.kind == BOX ? call.drafted[PARENT] : call.v;
        }
        return call.task == CHANGE && tellsOneByV(call) ? call.v : 0;
    }

    private boolean isGoodAhead(int k, int number) {
        return k >= 0 && k < number && k < CALLS && outcomes[k].code == DONE;
    }

    private boolean doesOneHold(int one, int number) {
        return one >= 0 || isGoodAhead(-1 - one, number) && outcomes[-1 - one].count(MADE) > 0;
    }

    private boolean doNamedHold(Call call, int number) {
        boolean holds = call.c >= 0 ? isGoodAhead(call.c, number) : doesOneHold(call.r, number);
        return holds && doesOneHold(oneBeside(call), number);
    }

    private int idOf(int one) {
        int k = -1 - one;
        return k >= 0 && k < CALLS ? outcomes[k].at(MADE, 0) : one;
    }

    private int parentOf(int one) {
        return one == NO_ONE ? NONE : idOf(one);
    }

    /** No row has an ID twice, so neither have these. */
    private void takeIds(Call call) {
        idCount = 0;
        if (call.c < 0) {
            addId(idOf(call.r));
        } else if (call.c < CALLS) {
            Outcome from = outcomes[call.c];
            for (int i = 0; i < from.count(call.r); i++) {
                addId(from.at(call.r, i));
            }
        }
    }

    private void addId(int id) {
        if (idCount < ROOM) {
            ids[idCount] = id;
            idCount++;
        }
    }

    // ---- CALLS: what they do

    private int refusalOf(Call call, int number) {
        if (!isAsTold(call)) {
            return NOT_AS_TOLD;
        }
        return doNamedHold(call, number) ? DONE : CALL_FAILS;
    }

    private int act(Call call, Outcome out) {
        switch (call.task) {
            case GET:
                return tellIds(call, out);
            case QUERY:
                return tellFitting(call, out);
            case CHANGES:
                return log.tellChanges(call, kindOf(call.kind).changeCount, out);
            case MAKE:
                return call.kind == BOX ? makeBox(call, out) : makeMail(call, out);
            case CHANGE:
                return changeIds(call, out);
            default:
                return destroyIds(call, out);
        }
    }

    private Kind kindOf(int kind) {
        return kind == BOX ? boxes : kind == MAIL ? mails : threads;
    }

    /** For CALLS that may fail behind some of their IDS; the others change nothing before they know. */
    private void keepAll() {
        boxes.keep();
        mails.keep();
        threads.keep();
    }

    private void bringAllBack() {
        boxes.bringBack();
        mails.bringBack();
        threads.bringBack();
    }

    private void logTouched() {
        for (int kind = 0; kind < KINDS; kind++) {
            Kind of = kindOf(kind);
            if (of.isAnyTouched) {
                of.changeCount++;
                for (int id = 0; id < of.ever && id < ROOM; id++) {
                    if (of.isTouched(id)) {
                        log.add(kind, of.changeCount, id, of.touched[id]);
                    }
                }
                of.forgetTouched();
            }
        }
    }

    private int tellIds(Call call, Outcome out) {
        takeIds(call);
        Kind of = kindOf(call.kind);
        for (int i = 0; i < idCount; i++) {
            out.add(of.isThere(ids[i]) ? MAIN : GONE, ids[i]);
        }
        return DONE;
    }

    private int tellFitting(Call call, Outcome out) {
        if (call.filterId >= filters.count) {
            return NO_SUCH;
        }
        idCount = 0;
        for (int m = 0; m < mails.ever; m++) {
            if (mails.isThere(m) && (call.filterId < 0 || passes(m, call.filterId))) {
                addId(m);
            }
        }
        sortIds(call.key);
        for (int i = call.place; i < idCount && i - call.place < call.most; i++) {
            out.add(MAIN, ids[i]);
        }
        return DONE;
    }

    /** By insertion, which leaves like ones as they came: by ID rising. */
    private void sortIds(int key) {
        for (int i = 1; i < idCount; i++) {
            int id = ids[i];
            int weight = weightOf(id, key);
            int j = i;
            while (j > 0 && weightOf(ids[j - 1], key) > weight) {
                ids[j] = ids[j - 1];
                j--;
            }
            ids[j] = id;
        }
    }

    private int weightOf(int m, int key) {
        int rising = key < 4 ? key : key - 4;
        int weight = rising == 0 ? mails.value(m, DATE) : rising == 1 ? mails.value(m, SIZE)
                : rising == 2 ? mails.value(m, SUBJECT) : m;
        return key < 4 ? weight : -weight;
    }

    private int makeBox(Call call, Outcome out) {
        int parent = parentOf(call.drafted[PARENT]);
        if (parent != NONE && !boxes.isThere(parent)) {
            return NO_SUCH;
        }
        if (isNameTaken(call.drafted[NAME], parent, NONE) || depthOf(parent) >= DEEPEST) {
            return MAY_NOT;
        }
        if (boxes.isFull()) {
            return NO_ROOM;
        }
        int b = boxes.add();
        boxes.set(b, NAME, call.drafted[NAME]);
        boxes.set(b, PARENT, parent);
        boxes.set(b, ORDER, call.drafted[ORDER]);
        out.add(MADE, b);
        return DONE;
    }

    private int makeMail(Call call, Outcome out) {
        int b = idOf(call.v);
        if (!boxes.isThere(b)) {
            return NO_SUCH;
        }
        if (mails.isFull()) {
            return NO_ROOM;
        }
        int m = mails.add();
        for (int column = SUBJECT; column <= MARKS; column++) {
            int v = call.drafted[OF_MAIL + column];
            boolean none = v == NO_ONE && (column == NAMES || column == ALSO_NAMES);
            mails.set(m, column, none ? NONE : v);
        }
        mails.set(m, IN, bitOf(b));
        comeToThread(m);
        out.add(MADE, m);
        return DONE;
    }

    private int changeIds(Call call, Outcome out) {
        takeIds(call);
        Kind of = kindOf(call.kind);
        boolean one = tellsOneByV(call);
        int v = !one ? call.v : call.kind == BOX ? parentOf(call.v) : idOf(call.v);
        keepAll();
        for (int i = 0; i < idCount; i++) {
            int id = ids[i];
            int code = call.kind == BOX ? changeBox(id, call.what, v) : changeMail(id, call.what, v);
            if (code != DONE) {
                bringAllBack();
                return code;
            }
            if (of.isTouched(id)) {
                out.add(CHANGED, id);
            }
        }
        return DONE;
    }

    /** Changes first and looks then whether the tree may be so: a CALL that fails is undone as a whole. */
    private int changeBox(int b, int what, int v) {
        if (!boxes.isThere(b) || what == PARENT && v != NONE && !boxes.isThere(v)) {
            return NO_SUCH;
        }
        if (boxes.value(b, what) == v) {
            return DONE;
        }
        boxes.set(b, what, v);
        boxes.touch(b, CHANGED);
        if (isNameTaken(boxes.value(b, NAME), boxes.value(b, PARENT), b) || isAnyTooDeep()) {
            return MAY_NOT;
        }
        return DONE;
    }

    private int changeMail(int m, int what, int v) {
        if (!mails.isThere(m) || what != 0 && !boxes.isThere(v)) {
            return NO_SUCH;
        }
        int column = what == 0 ? MARKS : IN;
        int was = mails.value(m, column);
        int then = what == 0 ? v : what == 1 ? was | bitOf(v) : was & ~bitOf(v);
        if (column == IN && then == 0) {
            return MAY_NOT;
        }
        if (then != was) {
            mails.set(m, column, then);
            mails.touch(m, CHANGED);
        }
        return DONE;
    }

    private int destroyIds(Call call, Outcome out) {
        takeIds(call);
        keepAll();
        for (int i = 0; i < idCount; i++) {
            int code = call.kind == BOX ? destroyBox(ids[i]) : destroyMail(ids[i]);
            if (code != DONE) {
                bringAllBack();
                return code;
            }
            out.add(GONE, ids[i]);
        }
        return DONE;
    }

    private int destroyBox(int b) {
        if (!boxes.isThere(b)) {
            return NO_SUCH;
        }
        if (boxes.howManyWith(PARENT, b) > 0 || mailsIn(b) > 0) {
            return MAY_NOT;
        }
        boxes.remove(b);
        return DONE;
    }

    private int destroyMail(int m) {
        if (!mails.isThere(m)) {
            return NO_SUCH;
        }
        mails.remove(m);
        leaveThread(m);
        return DONE;
    }

    // ---- the tree of BOXES

    private boolean isNameTaken(int name, int parent, int but) {
        for (int b = 0; b < boxes.ever; b++) {
            if (b != but && boxes.isThere(b) && boxes.value(b, NAME) == name
                    && boxes.value(b, PARENT) == parent) {
                return true;
            }
        }
        return false;
    }

    /** One more than DEEPEST for all that lie deeper; so also for a BOX above itself, whose way up has no end. */
    private int depthOf(int b) {
        int deep = 0;
        int at = b;
        while (deep <= DEEPEST && at >= 0 && at < ROOM) {
            deep++;
            at = boxes.values[PARENT][at];
        }
        return deep;
    }

    private boolean isAnyTooDeep() {
        for (int b = 0; b < boxes.ever; b++) {
            if (boxes.isThere(b) && depthOf(b) > DEEPEST) {
                return true;
            }
        }
        return false;
    }

    private static int bitOf(int b) {
        return b >= 0 && b < BOXES ? 1 << b : 0;
    }

    private boolean isIn(int m, int b) {
        return (mails.value(m, IN) & bitOf(b)) != 0;
    }

    private int mailsIn(int b) {
        int count = 0;
        for (int m = 0; m < mails.ever; m++) {
            if (mails.isThere(m) && isIn(m, b)) {
                count++;
            }
        }
        return count;
    }

    // ---- THREADS

    private void comeToThread(int m) {
        int t = threadFor(m);
        if (t == NONE) {
            t = threads.add();
        } else {
            threads.touch(t, CHANGED);
        }
        threads.set(t, HOLDS, threads.value(t, HOLDS) + 1);
        mails.set(m, THREAD_OF, t);
    }

    private void leaveThread(int m) {
        int t = mails.value(m, THREAD_OF);
        int left = threads.value(t, HOLDS) - 1;
        threads.set(t, HOLDS, left);
        if (left == 0) {
            threads.remove(t);
        } else {
            threads.touch(t, CHANGED);
        }
    }

    private int threadFor(int m) {
        for (int other = 0; other < m; other++) {
            if (mails.isThere(other) && mails.value(other, SUBJECT) == mails.value(m, SUBJECT)
                    && doNumbersMeet(other, m)) {
                return mails.value(other, THREAD_OF);
            }
        }
        return NONE;
    }

    private boolean doNumbersMeet(int m, int other) {
        for (int i = NUMBER; i <= ALSO_NAMES; i++) {
            int v = mails.value(m, i);
            for (int j = NUMBER; j <= ALSO_NAMES; j++) {
                if (v != NONE && v == mails.value(other, j)) {
                    return true;
                }
            }
        }
        return false;
    }

    // ---- FILTERS

    /** A FILTER is of earlier ones alone, so those ahead of it are worked out on the way to it. */
    private boolean passes(int m, int f) {
        int passed = 0;
        for (int i = 0; i <= f && i < filters.count; i++) {
            if (passesOne(m, i, passed)) {
                passed |= 1 << i;
            }
        }
        return hasBit(passed, f);
    }

    private static boolean hasBit(int bits, int i) {
        return (bits >> i & 1) != 0;
    }

    private boolean passesOne(int m, int i, int passed) {
        int a = filters.as[i];
        int b = filters.bs[i];
        switch (filters.kinds[i]) {
            case Filters.IN_BOX:
                return isIn(m, a);
            case Filters.EARLIER:
                return mails.value(m, DATE) < a;
            case Filters.LATER:
                return mails.value(m, DATE) >= a;
            case Filters.SMALLER:
                return mails.value(m, SIZE) < a;
            case Filters.LARGER:
                return mails.value(m, SIZE) >= a;
            case Filters.MARKED:
                return hasBit(mails.value(m, MARKS), a);
            case Filters.OF_SUBJECT:
                return mails.value(m, SUBJECT) == a;
            case Filters.OF_THREAD:
                return mails.value(m, THREAD_OF) == a;
            case Filters.BOTH:
                return hasBit(passed, a) && hasBit(passed, b);
            case Filters.EITHER:
                return hasBit(passed, a) || hasBit(passed, b);
            default:
                return !hasBit(passed, a);
        }
    }

    /** A CALL as it was put. */
    private static final class Call {
        private final int[] drafted = new int[DRAFTS];
        private int task, kind;
        private int c, r, what, v;
        private int filterId, key, place, most, since;

        /** IDS and ONE ID are set to what names no CALL: not every task tells them. */
        private void begin(int newTask, int newKind) {
            task = newTask;
            kind = newKind;
            c = -1;
            r = 0;
            what = 0;
            v = 0;
        }
    }

    /** What a CALL gave. */
    private static final class Outcome {
        private final int[][] rows = new int[ROWS][ROOM];
        private final int[] counts = new int[ROWS];
        private int code;

        private void clear() {
            for (int r = 0; r < ROWS; r++) {
                counts[r] = 0;
            }
        }

        private void add(int r, int id) {
            if (r >= 0 && r < ROWS && counts[r] < ROOM) {
                rows[r][counts[r]] = id;
                counts[r]++;
            }
        }

        private int count(int r) {
            return r >= 0 && r < ROWS ? counts[r] : UNKNOWN;
        }

        private int at(int r, int i) {
            return i >= 0 && i < count(r) ? rows[r][i] : UNKNOWN;
        }
    }

    /** All of a KIND, with what the CALL under way did to them. */
    private static final class Kind {
        private final int[][] values = new int[COLUMNS][ROOM];
        private final int[][] kept = new int[COLUMNS][ROOM];
        private final int[] touched = new int[ROOM];
        private final int mostEver;
        private int ever, keptEver, changeCount;
        private boolean isAnyTouched;

        private Kind(int mostEver) {
            this.mostEver = mostEver;
        }

        private boolean isThere(int id) {
            return id >= 0 && id < ROOM && values[THERE][id] == 1;
        }

        private int value(int id, int column) {
            if (id < 0 || id >= ROOM || column < 0 || column >= COLUMNS) {
                return NONE;
            }
            return values[column][id];
        }

        private void set(int id, int column, int v) {
            if (id >= 0 && id < ROOM && column >= 0 && column < COLUMNS) {
                values[column][id] = v;
            }
        }

        private boolean isFull() {
            return ever >= mostEver || ever >= ROOM;
        }

        /** Not to be asked of one that is full. */
        private int add() {
            int id = ever;
            ever++;
            set(id, THERE, 1);
            touch(id, MADE);
            return id;
        }

        private void remove(int id) {
            set(id, THERE, 0);
            touch(id, GONE);
        }

        private void touch(int id, int what) {
            if (id >= 0 && id < ROOM) {
                touched[id] = what;
                isAnyTouched = true;
            }
        }

        private boolean isTouched(int id) {
            return id >= 0 && id < ROOM && touched[id] != 0;
        }

        private int howMany() {
            return howManyWith(THERE, 1);
        }

        private int howManyWith(int column, int v) {
            int count = 0;
            for (int id = 0; id < ever; id++) {
                if (isThere(id) && value(id, column) == v) {
                    count++;
                }
            }
            return count;
        }

        private int idWith(int column, int v, int i) {
            int ahead = 0;
            for (int id = 0; id < ever; id++) {
                if (isThere(id) && value(id, column) == v) {
                    if (ahead == i) {
                        return id;
                    }
                    ahead++;
                }
            }
            return UNKNOWN;
        }

        private void keep() {
            for (int column = 0; column < COLUMNS; column++) {
                System.arraycopy(values[column], 0, kept[column], 0, ROOM);
            }
            keptEver = ever;
        }

        private void bringBack() {
            for (int column = 0; column < COLUMNS; column++) {
                System.arraycopy(kept[column], 0, values[column], 0, ROOM);
            }
            ever = keptEver;
            forgetTouched();
        }

        private void forgetTouched() {
            for (int id = 0; id < ROOM; id++) {
                touched[id] = 0;
            }
            isAnyTouched = false;
        }
    }

    /** THE LOG, as a ring of ENTRIES. */
    private static final class Log {
        private final int[][] entries = new int[ENTRY_COLUMNS][ENTRIES];
        // Of each KIND the greatest STATE of which an ENTRY was driven out.
        private final int[] lost = new int[KINDS];
        // What became of each ID between two STATES, all together; 0: nothing that is to be told.
        private final int[] became = new int[ROOM];
        private int first, count;

        private int at(int i, int column) {
            int place = first + i;
            if (place >= ENTRIES) {
                place -= ENTRIES;
            }
            if (place < 0 || place >= ENTRIES || column < 0 || column >= ENTRY_COLUMNS) {
                return NONE;
            }
            return entries[column][place];
        }

        private void add(int kind, int newState, int id, int what) {
            if (count == ENTRIES) {
                driveOut();
            }
            int place = (first + count) % ENTRIES;
            entries[OF_KIND][place] = kind;
            entries[AT_STATE][place] = newState;
            entries[OF_ID][place] = id;
            entries[WHAT][place] = what;
            count++;
        }

        private void driveOut() {
            int kind = at(0, OF_KIND);
            if (isKind(kind)) {
                lost[kind] = at(0, AT_STATE);
            }
            first = (first + 1) % ENTRIES;
            count--;
        }

        private int tellChanges(Call call, int newest, Outcome out) {
            if (!isKind(call.kind) || call.since > newest || lost[call.kind] > call.since) {
                return NOT_TELLABLE;
            }
            int last = call.since;
            if (call.since < newest) {
                last = lastTellable(call.kind, call.since, call.most);
                if (last == NONE) {
                    return NOT_TELLABLE;
                }
            }
            forget();
            for (int i = 0; i < count; i++) {
                if (isOf(i, call.kind, call.since) && at(i, AT_STATE) <= last) {
                    meet(at(i, OF_ID), at(i, WHAT));
                }
            }
            for (int id = 0; id < ROOM; id++) {
                if (became[id] != 0) {
                    out.add(became[id], id);
                }
            }
            out.add(MAIN, last);
            return DONE;
        }

        /** They may become fewer from STATE to STATE: one that came and went is not told. */
        private int lastTellable(int kind, int since, int most) {
            forget();
            int last = NONE;
            int toTell = 0;
            for (int i = 0; i < count; i++) {
                if (isOf(i, kind, since)) {
                    toTell += meet(at(i, OF_ID), at(i, WHAT));
                    if (isLastOfState(i) && toTell <= most) {
                        last = at(i, AT_STATE);
                    }
                }
            }
            return last;
        }

        private boolean isOf(int i, int kind, int since) {
            return at(i, OF_KIND) == kind && at(i, AT_STATE) > since;
        }

        private boolean isLastOfState(int i) {
            return i + 1 >= count || at(i + 1, OF_KIND) != at(i, OF_KIND)
                    || at(i + 1, AT_STATE) != at(i, AT_STATE);
        }

        private void forget() {
            for (int id = 0; id < ROOM; id++) {
                became[id] = 0;
            }
        }

        /** How many more there are to tell with this. */
        private int meet(int id, int what) {
            if (id < 0 || id >= ROOM) {
                return 0;
            }
            int was = became[id];
            became[id] = was != MADE ? what : what == GONE ? 0 : MADE;
            return (became[id] != 0 ? 1 : 0) - (was != 0 ? 1 : 0);
        }
    }

    private static final class Filters {
        private static final int IN_BOX = 0, EARLIER = 1, LATER = 2, SMALLER = 3, LARGER = 4, MARKED = 5;
        private static final int OF_SUBJECT = 6, OF_THREAD = 7, BOTH = 8, EITHER = 9, NOT = 10;

        private final int[] kinds = new int[FILTERS];
        private final int[] as = new int[FILTERS];
        private final int[] bs = new int[FILTERS];
        private int count;

        private boolean isThere(int f) {
            return f >= 0 && f < count;
        }

        private int add(int kind, int a, int b) {
            if (count >= FILTERS) {
                return FULL;
            }
            kinds[count] = kind;
            as[count] = a;
            bs[count] = b;
            return count++;
        }
    }
}
