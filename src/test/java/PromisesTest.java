/** Each promise of the document by worked cases: ordinary inputs, the edges that it names, wrong inputs. */
public final class PromisesTest {
    private static final int BOX = 0, MAIL = 1, THREAD = 2;
    private static final int MAIN = 0, MADE = 1, CHANGED = 2, GONE = 3;
    private static int wrong = 0;
    private static int checks = 0;

    private static void due(String what, int got, int want) {
        checks++;
        if (got != want) {
            wrong++;
            System.out.println(what + ": answered " + got + ", due is " + want);
        }
    }

    private static void row(String what, MailCore x, int k, int r, int... want) {
        due(what + ", many", x.many(k, r), want.length);
        for (int i = 0; i < want.length; i++) {
            due(what + ", given " + i, x.given(k, r, i), want[i]);
        }
        due(what + ", given behind all", x.given(k, r, want.length), -1);
    }

    private static void status(String what, MailCore x, int k, int want) {
        due(what + ", status of " + k, x.status(k), want);
        if (want != 0) {
            for (int r = 0; r < 4; r++) {
                due(what + ", row " + r + " of " + k, x.many(k, r), 0);
            }
        }
    }

    private static void entries(String what, MailCore x, int from, int[]... want) {
        due(what + ", entries", x.told(5), from + want.length);
        for (int i = 0; i < want.length; i++) {
            for (int j = 0; j < 4; j++) {
                due(what + ", entry " + (from + i) + ", " + j, x.entry(from + i, j), want[i][j]);
            }
        }
    }

    private static int putBox(MailCore x, int name, int parent) {
        x.draft(0, name);
        x.draft(1, parent);
        return x.make(BOX, 0);
    }

    private static int putMail(MailCore x, int box, int subject, int number, int names, int also) {
        x.draft(3, subject);
        x.draft(4, number);
        x.draft(5, names);
        x.draft(6, also);
        return x.make(MAIL, box);
    }

    private static void sized(MailCore x, int size, int date, int marks) {
        x.draft(7, size);
        x.draft(8, date);
        x.draft(9, marks);
    }

    /** Boxes 0 (name 1) and 1 (name 2) without a PARENT. */
    private static MailCore twoBoxes() {
        MailCore x = new MailCore();
        putBox(x, 1, 1000);
        putBox(x, 2, 1000);
        due("two boxes", x.run(), 2);
        return x;
    }

    /** Two boxes, and in box 0 so many mails, each with a thread of its own (numbers 0, 1, ..). */
    private static MailCore withMails(int count) {
        MailCore x = twoBoxes();
        for (int m = 0; m < count; m++) {
            putMail(x, 0, 1, m, 1000, 1000);
            due("a mail", x.run(), 1);
        }
        return x;
    }

    private static void newObject() {
        MailCore x = new MailCore();
        for (int what = -1; what <= 13; what++) {
            boolean good = what >= 0 && what <= 6 || what >= 10 && what <= 12;
            due("1: told " + what, x.told(what), good ? 0 : -2);
        }
        for (int kind = 0; kind < 3; kind++) {
            due("1: state", x.state(kind), 0);
        }
        due("1: box", x.box(0, 0), -1);
        due("1: mail", x.mail(0, 0), -1);
        due("1: thread", x.thread(0, -1), -1);
        due("1: entry", x.entry(0, 0), -1);
        due("1: status", x.status(0), -9);
        due("1: constants", MailCore.UNKNOWN * 1000 + MailCore.OUTSIDE * 100 + MailCore.FULL * 10 + MailCore.NONE, -1249);
    }

    private static void draft() {
        MailCore x = new MailCore();
        int[] first = {0, 1000, 0, 0, 0, 1000, 1000, 0, 0, 0};
        for (int what = 0; what < 10; what++) {
            due("2: first", x.draft(what, 7000 + what), first[what]);
        }
        for (int what = 0; what < 10; what++) {
            due("2: then", x.draft(what, Integer.MIN_VALUE), 7000 + what);
        }
        due("2: below", x.draft(-1, 5), -1);
        due("2: above", x.draft(10, 5), -1);
        due("2: far", x.draft(Integer.MIN_VALUE, 5), -1);
        due("2: any number", x.draft(0, 3), Integer.MIN_VALUE);
    }

    private static void draftIsTakenAsPut() {
        MailCore x = twoBoxes();
        x.draft(0, 30);
        x.make(BOX, 0);
        x.draft(0, 31);
        due("2: run", x.run(), 1);
        due("2: name as put", x.box(2, 0), 30);
        due("2: the draft stays", x.draft(0, 1), 31);
    }

    private static void get() {
        MailCore x = withMails(4);
        due("3: number", x.get(MAIL, -1, 2), 0);
        due("3: number", x.get(MAIL, -1, 4), 1);
        x.get(MAIL, -1, Integer.MAX_VALUE);
        x.query(-1, 7, 0, 99);
        x.get(BOX, 3, MAIN);
        x.get(THREAD, 3, MAIN);
        x.get(MAIL, 3, MADE);
        x.get(MAIL, -1, -4);
        x.get(MAIL, 9, 0);
        x.get(MAIL, 12, 0);
        x.get(3, -1, 0);
        x.get(MAIL, 3, 4);
        due("3: full", x.get(MAIL, -1, 0), -4);
        due("3: run", x.run(), 7);
        row("3: there", x, 0, MAIN, 2);
        row("3: there", x, 0, GONE);
        row("3: not there", x, 1, MAIN);
        row("3: not there", x, 1, GONE, 4);
        row("3: far", x, 2, GONE, Integer.MAX_VALUE);
        row("3: in their order", x, 4, MAIN, 1, 0);
        row("3: in their order", x, 4, GONE, 3, 2);
        row("3: threads", x, 5, MAIN, 3, 2, 1, 0);
        row("3: of an empty row", x, 6, MAIN);
        status("3: of an empty row", x, 6, 0);
        status("3: one of an empty row", x, 7, -5);
        status("3: not ahead", x, 8, -5);
        status("3: no such call", x, 9, -5);
        status("3: kind", x, 10, -2);
        status("3: row", x, 11, -2);
        x.get(MAIL, 0, 0);
        x.get(MAIL, -1, -1);
        x.get(MAIL, -1, -3);
        x.get(MAIL, -2, 0);
        x.get(-1, 5, 9);
        x.get(MAIL, 0, -1);
        x.get(MAIL, 0, 0);
        x.get(MAIL, -1, Integer.MIN_VALUE);
        due("3: run", x.run(), 0);
        int[] want = {-5, -5, -5, -2, -2, -2, -5, -5};
        for (int k = 0; k < want.length; k++) {
            status("3: wrong ones", x, k, want[k]);
        }
    }

    private static void query() {
        MailCore x = twoBoxes();
        int[][] rows = {{5, 7, 30}, {3, 9, 20}, {5, 7, 20}, {1, 9, 20}};
        for (int[] of : rows) {
            sized(x, of[1], of[2], 0);
            putMail(x, 0, of[0], 0, 1000, 1000);
        }
        x.run();
        int[][] by = {{1, 2, 3, 0}, {0, 2, 1, 3}, {3, 1, 0, 2}, {0, 1, 2, 3},
            {0, 1, 2, 3}, {1, 3, 0, 2}, {0, 2, 1, 3}, {3, 2, 1, 0}};
        for (int key = 0; key < 8; key++) {
            due("4: number", x.query(-1, key, 0, 99), key);
        }
        x.query(-1, 3, 1, 2);
        x.query(-1, 3, 3, 2);
        x.query(-1, 3, 99, 99);
        x.query(-1, 3, 0, 0);
        due("4: full", x.query(-1, 0, 0, 1), -4);
        due("4: run", x.run(), 12);
        for (int key = 0; key < 8; key++) {
            row("4: key " + key, x, key, MAIN, by[key]);
        }
        row("4: window", x, 8, MAIN, 1, 2);
        row("4: window's end", x, 9, MAIN, 3);
        row("4: behind all", x, 10, MAIN);
        row("4: none wanted", x, 11, MAIN);
        x.filter(1, 30, 0);
        int[][] odd = {{0, 0, 0, 9}, {1, 0, 0, 9}, {-2, 0, 0, 9}, {1, 8, 0, 9}, {-1, -1, 0, 9}, {-1, 0, -1, 9},
            {-1, 0, 100, 9}, {-1, 0, 0, -1}, {-1, 0, 0, 100}};
        for (int[] of : odd) {
            x.query(of[0], of[1], of[2], of[3]);
        }
        due("4: run", x.run(), 1);
        row("4: filtered", x, 0, MAIN, 1, 2, 3);
        status("4: no such filter", x, 1, -1);
        for (int k = 2; k < 9; k++) {
            status("4: not as told", x, k, -2);
        }
        x.query(1, 3, 0, 99);
        x.filter(10, 0, 0);
        x.run();
        row("4: a filter that came since", x, 0, MAIN, 0);
    }

    private static void changes() {
        MailCore x = withMails(3);
        x.query(-1, 3, 0, 2);
        x.change(MAIL, 0, MAIN, 0, 5);
        x.run();
        due("5: one state a call", x.state(MAIL), 4);
        x.destroy(MAIL, -1, 0);
        x.run();
        putMail(x, 0, 1, 30, 1000, 1000);
        x.destroy(MAIL, -1, -1);
        x.run();
        due("5: state", x.state(MAIL), 7);
        int[][] of = {{0, 99}, {0, 2}, {0, 1}, {3, 99}, {3, 1}, {4, 99}, {5, 1}, {7, 1}, {8, 1}, {2, 2}};
        for (int[] one : of) {
            x.changes(MAIL, one[0], one[1]);
        }
        due("5: number", x.changes(THREAD, 3, 9), 10);
        x.changes(BOX, 0, 99);
        due("5: full", x.changes(MAIL, 0, 1), -4);
        due("5: run", x.run(), 10);
        changesAre("5: all", x, 0, 7, new int[] {1, 2}, new int[] {}, new int[] {});
        changesAre("5: fewer again", x, 1, 7, new int[] {1, 2}, new int[] {}, new int[] {});
        changesAre("5: one alone", x, 2, 1, new int[] {0}, new int[] {}, new int[] {});
        changesAre("5: changed and gone", x, 3, 7, new int[] {}, new int[] {1}, new int[] {0});
        status("5: a call of two can not be told by one", x, 4, -6);
        changesAre("5: gone", x, 5, 7, new int[] {}, new int[] {}, new int[] {0});
        changesAre("5: came and went", x, 6, 7, new int[] {}, new int[] {}, new int[] {});
        changesAre("5: as it is", x, 7, 7, new int[] {}, new int[] {}, new int[] {});
        status("5: above", x, 8, -6);
        changesAre("5: made stays made", x, 9, 3, new int[] {2}, new int[] {}, new int[] {});
        changesAre("5: threads", x, 10, 6, new int[] {}, new int[] {}, new int[] {0});
        changesAre("5: boxes", x, 11, 2, new int[] {0, 1}, new int[] {}, new int[] {});
        x.changes(BOX, 0, 1);
        x.changes(BOX, 0, 2);
        due("5: run", x.run(), 2);
        changesAre("5: from the log's first", x, 0, 1, new int[] {0}, new int[] {}, new int[] {});
        changesAre("5: from the log's first", x, 1, 2, new int[] {0, 1}, new int[] {}, new int[] {});
        int[][] odd = {{3, 0, 9}, {-1, 0, 9}, {MAIL, -1, 9}, {MAIL, 0, 0}, {MAIL, 0, 100}, {MAIL, 99, 0}};
        for (int[] one : odd) {
            x.changes(one[0], one[1], one[2]);
        }
        due("5: run", x.run(), 0);
        for (int k = 0; k < odd.length; k++) {
            status("5: not as told", x, k, -2);
        }
    }

    private static void changesAre(String what, MailCore x, int k, int t, int[] made, int[] changed, int[] gone) {
        status(what, x, k, 0);
        row(what + ": t", x, k, MAIN, t);
        row(what + ": made", x, k, MADE, made);
        row(what + ": changed", x, k, CHANGED, changed);
        row(what + ": gone", x, k, GONE, gone);
    }

    private static void changesWithinARequest() {
        MailCore x = withMails(1);
        x.changes(MAIL, 1, 9);
        x.change(MAIL, -1, 0, 0, 1);
        x.changes(MAIL, 1, 9);
        x.get(MAIL, 2, MAIN);
        putMail(x, 0, 9, 9, 1000, 1000);
        x.changes(MAIL, 1, 9);
        x.change(MAIL, -1, -6, 0, 3);
        due("5: run", x.run(), 7);
        changesAre("5: ahead", x, 0, 1, new int[] {}, new int[] {}, new int[] {});
        changesAre("5: behind", x, 2, 2, new int[] {}, new int[] {0}, new int[] {});
        row("5: a state is taken as it is", x, 3, GONE, 2);
        changesAre("5: behind", x, 5, 3, new int[] {1}, new int[] {0}, new int[] {});
        row("5: ONE ID is the first of the MADE of CHANGES too", x, 6, CHANGED, 1);
    }

    private static void changesOfWhatWasDrivenOut() {
        MailCore x = twoBoxes();
        putMail(x, 0, 1, 1, 1000, 1000);
        x.run();
        for (int i = 1; i <= 56; i++) {
            x.change(MAIL, -1, 0, 0, i % 2 + 1);
            x.run();
        }
        due("5: the log is full", x.told(5), 60);
        x.changes(BOX, 0, 9);
        x.run();
        status("5: still remembered", x, 0, 0);
        x.change(MAIL, -1, 0, 0, 8);
        x.change(MAIL, -1, 0, 0, 9);
        x.changes(BOX, 0, 9);
        x.changes(BOX, 1, 9);
        x.changes(BOX, 2, 9);
        x.changes(MAIL, 0, 9);
        x.change(MAIL, -1, 0, 0, 10);
        x.changes(MAIL, 0, 9);
        x.changes(MAIL, 1, 9);
        x.changes(BOX, 1, 9);
        x.run();
        due("5: the log is full", x.told(5), 60);
        status("5: driven out", x, 2, -6);
        status("5: driven out too", x, 3, -6);
        status("5: as it is", x, 4, 0);
        changesAre("5: mails are remembered", x, 5, 59, new int[] {0}, new int[] {}, new int[] {});
        status("5: the mail's first was driven out", x, 7, -6);
        changesAre("5: what came behind", x, 8, 60, new int[] {}, new int[] {0}, new int[] {});
        status("5: driven out stays so", x, 9, -6);
    }

    private static void makeBoxes() {
        MailCore x = new MailCore();
        due("6: number", putBox(x, 1, 1000), 0);
        due("6: number", putBox(x, 2, -1), 1);
        putBox(x, 3, -2);
        putBox(x, 4, -3);
        putBox(x, 5, -4);
        putBox(x, 1, 1000);
        putBox(x, 1, 0);
        putBox(x, 9, 7);
        putBox(x, 9, -6);
        putBox(x, 9, -12);
        x.draft(2, 10);
        putBox(x, 9, 1000);
        x.draft(2, 0);
        putBox(x, 100, 1000);
        due("6: full", putBox(x, 8, 1000), -4);
        due("6: run", x.run(), 5);
        int[] want = {0, 0, 0, 0, -3, -3, 0, -1, -5, -5, -2, -2};
        for (int k = 0; k < want.length; k++) {
            status("6: boxes", x, k, want[k]);
        }
        row("6: failed ones take no ids", x, 6, MADE, 4);
        due("6: depth", x.box(3, 5), 4);
        due("6: parent", x.box(4, 1), 0);
        x.draft(0, 50);
        x.draft(1, 1000);
        x.make(2, 0);
        x.make(-1, 0);
        x.make(BOX, -99);
        x.draft(3, 500);
        x.draft(9, -1);
        x.draft(0, 51);
        x.make(BOX, 0);
        x.draft(0, -1);
        x.make(BOX, 0);
        x.draft(0, 52);
        x.draft(2, -1);
        x.make(BOX, 0);
        due("6: run", x.run(), 2);
        int[] then = {-2, -2, 0, 0, -2, -2};
        for (int k = 0; k < then.length; k++) {
            status("6: boxes, then", x, k, then[k]);
        }
    }

    private static void makeBoxesWithoutRoom() {
        MailCore x = new MailCore();
        for (int b = 0; b < 20; b++) {
            putBox(x, b, 1000);
            due("6: a box", x.run(), 1);
        }
        x.destroy(BOX, -1, 5);
        putBox(x, 30, 1000);
        putBox(x, 3, 1000);
        putBox(x, 30, 5);
        putBox(x, 30, -2);
        due("6: run", x.run(), 1);
        int[] want = {0, -4, -3, -1, -5};
        for (int k = 0; k < want.length; k++) {
            status("6: no room", x, k, want[k]);
        }
        due("6: ever", x.told(10), 20);
    }

    private static void makeMails() {
        MailCore x = twoBoxes();
        int[] tops = {99, 999, 1000, 1000, 9999, 9999, 15};
        for (int i = 0; i < 7; i++) {
            x.draft(3 + i, tops[i]);
        }
        x.make(MAIL, 1);
        for (int i = 0; i < 7; i++) {
            int was = x.draft(3 + i, tops[i] + 1);
            x.make(MAIL, 1);
            x.draft(3 + i, was);
        }
        x.make(MAIL, 2);
        x.make(MAIL, -1);
        x.make(MAIL, -20);
        x.draft(0, 1000);
        x.make(MAIL, 0);
        due("6: run", x.run(), 3);
        int[] want = {0, -2, -2, -2, -2, -2, -2, -2, -1, 0, -5, 0};
        for (int k = 0; k < want.length; k++) {
            status("6: mails", x, k, want[k]);
        }
        row("6: mails", x, 11, MADE, 2);
        due("6: in the box of the MADE's number", x.mail(1, 20), 1);
        int[] kept = {99, 999, -9, -9, 9999, 9999, 15, 0, 1};
        for (int what = 0; what < kept.length; what++) {
            due("6: mail " + what, x.mail(0, what), kept[what]);
        }
        for (int i = 0; i < 7; i++) {
            int was = x.draft(3 + i, -1);
            x.make(MAIL, 1);
            x.draft(3 + i, was);
        }
        due("6: below", x.run(), 0);
        for (int k = 0; k < 7; k++) {
            status("6: below", x, k, -2);
        }
    }

    private static void makeMailsWithoutRoom() {
        MailCore x = withMails(50);
        due("6: threads", x.told(2), 50);
        x.destroy(MAIL, -1, 49);
        putMail(x, 0, 1, 1, 1000, 1000);
        putMail(x, 7, 1, 1, 1000, 1000);
        x.run();
        status("6: no room for a mail", x, 1, -4);
        status("6: no box for a mail", x, 2, -1);
        due("6: ever", x.told(11), 50);
        due("6: there", x.told(1), 49);
    }

    private static void threadsGather() {
        MailCore x = twoBoxes();
        putMail(x, 0, 1, 10, 1000, 1000);
        putMail(x, 0, 1, 20, 1000, 1000);
        putMail(x, 0, 1, 30, 20, 10);
        putMail(x, 0, 1, 20, 1000, 1000);
        putMail(x, 0, 2, 10, 20, 30);
        putMail(x, 0, 1, 40, 1000, 30);
        putMail(x, 0, 1, 1, 1000, 2);
        putMail(x, 0, 1, 3, 2, 1000);
        putMail(x, 0, 1, 4, 1000, 1000);
        due("6: run", x.run(), 9);
        int[] thread = {0, 1, 0, 1, 2, 0, 3, 3, 4};
        for (int m = 0; m < thread.length; m++) {
            due("6: thread of " + m, x.mail(m, 7), thread[m]);
        }
        x.destroy(MAIL, -1, 0);
        x.destroy(MAIL, -1, 8);
        putMail(x, 0, 1, 10, 1000, 1000);
        putMail(x, 0, 1, 20, 1000, 1000);
        putMail(x, 0, 1, 4, 1000, 1000);
        due("6: run", x.run(), 5);
        due("6: by one that names it, the first gone", x.mail(9, 7), 0);
        due("6: by the least id", x.mail(10, 7), 1);
        due("6: a thread that went comes not again", x.mail(11, 7), 5);
        due("6: gone thread", x.thread(4, -1), -1);
        due("6: threads ever", x.told(12), 6);
    }

    private static void changeBoxes() {
        MailCore x = new MailCore();
        putBox(x, 1, 1000);
        putBox(x, 2, -1);
        putBox(x, 3, -2);
        putBox(x, 4, 1000);
        putBox(x, 5, -4);
        putBox(x, 2, 1000);
        due("7: run", x.run(), 6);
        int[][] calls = {
            {1, 0, 2, 0}, {1, 0, 7, 0}, {3, 0, 1, -3}, {0, 1, 2, -3}, {0, 1, 0, -3}, {3, 1, 1, 0},
            {3, 1, 2, -3}, {1, 1, 1000, 0}, {0, 2, 9, 0}, {0, 2, 9, 0}, {0, 1, 20, -1}, {6, 2, 1, -1}};
        for (int k = 0; k < calls.length; k++) {
            due("7: number", x.change(BOX, -1, calls[k][0], calls[k][1], calls[k][2]), k);
        }
        due("7: full", x.change(BOX, -1, 0, 2, 1), -4);
        due("7: run", x.run(), 6);
        for (int k = 0; k < calls.length; k++) {
            status("7: boxes", x, k, calls[k][3]);
        }
        row("7: the same name is no change", x, 0, CHANGED);
        row("7: another name", x, 1, CHANGED, 1);
        row("7: order", x, 8, CHANGED, 0);
        row("7: the same order", x, 9, CHANGED);
        due("7: state", x.state(BOX), 10);
        due("7: no parent", x.box(1, 1), -9);
        due("7: depth of what is below", x.box(4, 5), 3);
        x.change(BOX, -1, 0, 0, 7);
        x.change(BOX, -1, 1, 0, 2);
        x.change(BOX, -1, 1, 1, 0);
        x.change(BOX, -1, 4, 1, 2);
        x.change(BOX, -1, 4, 1, 3);
        x.change(BOX, -1, 0, 1, 5);
        due("7: run", x.run(), 3);
        int[] want = {-3, -3, 0, 0, 0, -3};
        for (int k = 0; k < want.length; k++) {
            status("7: deep", x, k, want[k]);
        }
        due("7: four deep", x.box(4, 5), 4);
        x = new MailCore();
        for (int b = 0; b < 5; b++) {
            putBox(x, b, b < 2 ? 1000 : -b);
        }
        x.change(BOX, -1, 0, 1, 4);
        x.change(BOX, -1, 0, 1, 3);
        x.run();
        status("7: five deep", x, 5, -3);
        status("7: four deep", x, 6, 0);
    }

    private static void changeIsAsTold() {
        MailCore x = withMails(1);
        int[][] odd = {{2, -1, 0, 0, 0}, {-1, -1, 0, 0, 0}, {BOX, -2, 0, 0, 0}, {BOX, 0, 4, 0, 0}, {BOX, -1, 0, 3, 0},
            {BOX, -1, 0, -1, 0}, {BOX, -1, 0, 0, 100}, {BOX, -1, 0, 0, -1}, {BOX, -1, 0, 2, 10}, {MAIL, -1, 0, 0, 16},
            {MAIL, -1, 0, 0, -1}, {MAIL, -1, 0, 3, 0}};
        for (int[] of : odd) {
            x.change(of[0], of[1], of[2], of[3], of[4]);
        }
        due("7: run", x.run(), 0);
        for (int k = 0; k < odd.length; k++) {
            status("7: not as told, " + k, x, k, -2);
        }
        int[][] refers = {{BOX, -1, 0, 1, -1}, {MAIL, -1, 0, 1, -3}, {MAIL, -1, 0, 2, -13}, {BOX, -1, -1, 0, 5},
            {MAIL, 4, 0, 0, 5}, {MAIL, -1, 0, 1, 1000}, {MAIL, -1, 0, 2, 2}, {MAIL, -1, 1, 0, 1}};
        int[] want = {-5, -5, -5, -5, -5, -1, -1, -1};
        for (int[] of : refers) {
            x.change(of[0], of[1], of[2], of[3], of[4]);
        }
        due("7: run", x.run(), 0);
        for (int k = 0; k < want.length; k++) {
            status("7: refers, " + k, x, k, want[k]);
        }
    }

    private static void changeMails() {
        MailCore x = withMails(3);
        x.query(-1, 7, 0, 99);
        x.change(MAIL, -1, 1, 0, 15);
        x.change(MAIL, 0, MAIN, 0, 15);
        x.change(MAIL, 2, CHANGED, 1, 1);
        x.change(MAIL, 0, MAIN, 1, 1);
        x.change(MAIL, -1, 0, 2, 0);
        x.change(MAIL, 0, MAIN, 2, 1);
        x.change(MAIL, -1, 1, 2, 1);
        x.change(MAIL, -1, 1, 2, 0);
        x.change(MAIL, -1, 1, 2, 1);
        putBox(x, 77, 1000);
        x.change(MAIL, -1, 0, 1, -11);
        due("7: run", x.run(), 10);
        row("7: marks", x, 1, CHANGED, 1);
        row("7: those that are other", x, 2, CHANGED, 2, 0);
        row("7: comes in", x, 3, CHANGED, 2, 0);
        row("7: comes in", x, 4, CHANGED, 1);
        row("7: goes out", x, 5, CHANGED, 0);
        status("7: one of them may not, none does", x, 6, -3);
        row("7: goes out", x, 7, CHANGED, 1);
        status("7: out of its last box", x, 8, -3);
        row("7: out of one in which it is not", x, 9, CHANGED);
        row("7: into one made ahead", x, 11, CHANGED, 0);
        due("7: in", x.mail(0, 8) * 10 + x.mail(0, 22), 21);
        due("7: in both", x.mail(2, 8), 2);
        due("7: state", x.state(MAIL), 10);
        due("7: threads are as they were", x.state(THREAD), 3);
        x.change(MAIL, -1, 0, 0, 0);
        x.change(BOX, -1, 0, 0, 0);
        x.change(BOX, -1, 0, 2, 0);
        due("7: the least numbers", x.run(), 3);
        x.query(-1, 3, 9, 9);
        x.change(MAIL, 0, MAIN, 1, 19);
        due("7: of no ids nothing is done", x.run(), 2);
        due("7: state", x.state(MAIL), 11);
    }

    private static void changeFailsAsAWhole() {
        MailCore x = new MailCore();
        for (int b = 0; b < 4; b++) {
            putBox(x, b, 1000);
        }
        x.run();
        x.changes(BOX, 0, 99);
        x.change(BOX, 0, MADE, 2, 9);
        x.change(BOX, 0, MADE, 1, 3);
        x.change(BOX, 0, MADE, 0, 5);
        x.destroy(BOX, 0, MADE);
        x.changes(BOX, 4, 99);
        due("7: run", x.run(), 4);
        status("7: itself its parent, as the last", x, 2, -3);
        status("7: twins, as the second", x, 3, -3);
        row("7: nothing of the failed ones is seen", x, 5, GONE, 0, 1, 2, 3);
        due("7: states", x.state(BOX), 6);
        due("7: entries", x.told(5), 12);
    }

    private static void destroy() {
        MailCore x = withMails(2);
        putBox(x, 3, 0);
        putBox(x, 4, 1);
        x.run();
        int[][] calls = {{BOX, -1, 0, -3}, {BOX, -1, 1, -3}, {BOX, -1, 2, 0}, {BOX, -1, 2, -1}, {BOX, -1, 0, -3},
            {MAIL, -1, 2, -1}, {MAIL, -1, 0, 0}, {MAIL, -1, 0, -1}, {THREAD, -1, 1, -2}, {-1, -1, 1, -2},
            {MAIL, 6, GONE, -1}, {BOX, 2, 5, -2}};
        for (int k = 0; k < calls.length; k++) {
            due("8: number", x.destroy(calls[k][0], calls[k][1], calls[k][2]), k);
        }
        due("8: full", x.destroy(BOX, -1, 0), -4);
        due("8: run", x.run(), 2);
        for (int k = 0; k < calls.length; k++) {
            status("8: " + k, x, k, calls[k][3]);
        }
        row("8: gone", x, 2, GONE, 2);
        due("8: box", x.box(2, 0), -1);
        due("8: mail", x.mail(0, 0), -1);
        due("8: thread", x.thread(0, -1), -1);
        x.destroy(MAIL, -1, 1);
        x.destroy(BOX, -1, 0);
        x.destroy(BOX, -1, -4);
        x.destroy(MAIL, 0, -1);
        x.destroy(MAIL, 0, MADE);
        due("8: run", x.run(), 3);
        status("8: not ahead", x, 2, -5);
        status("8: row", x, 3, -2);
        status("8: of no ids", x, 4, 0);
        due("8: ids come not again", x.told(10) * 100 + x.told(11), 402);
        putBox(x, 1, 1000);
        x.run();
        row("8: ids come not again", x, 0, MADE, 4);
    }

    private static void destroyFailsAsAWhole() {
        MailCore x = twoBoxes();
        for (int m = 0; m < 4; m++) {
            putMail(x, m == 0 ? 1 : 0, m / 3, 1, 1000, 1000);
        }
        x.run();
        x.query(-1, 3, 0, 99);
        x.destroy(MAIL, -1, 2);
        x.destroy(MAIL, 0, MAIN);
        x.get(MAIL, 0, MAIN);
        x.query(-1, 7, 0, 99);
        due("8: run", x.run(), 4);
        status("8: the third is not there", x, 2, -1);
        row("8: the first are", x, 3, MAIN, 0, 1, 3);
        due("8: the thread", x.thread(0, -1), 2);
        due("8: the other thread", x.thread(1, -1), 1);
        due("8: states", x.state(MAIL) * 10 + x.state(THREAD), 55);
        due("8: entries", x.told(5), 12);
        x.destroy(BOX, -1, 1);
        x.run();
        status("8: one mail is in it", x, 0, -3);
    }

    private static void destroyOneBehindTheOther() {
        MailCore x = new MailCore();
        for (int b = 0; b < 3; b++) {
            putBox(x, b, 1000);
        }
        x.run();
        x.change(BOX, -1, 0, 1, 2);
        x.changes(BOX, 0, 99);
        x.destroy(BOX, 1, MADE);
        due("8: a box below goes ahead of the one above", x.run(), 3);
        row("8: in their order", x, 2, GONE, 0, 1, 2);
        x = new MailCore();
        for (int b = 0; b < 3; b++) {
            putBox(x, b, 1000);
        }
        x.change(BOX, -1, 2, 1, 1);
        x.run();
        x.changes(BOX, 0, 99);
        x.destroy(BOX, 0, MADE);
        due("8: a box above is the first", x.run(), 1);
        status("8: a box above is the first", x, 1, -3);
        due("8: all are there", x.told(0), 3);
        due("8: state", x.state(BOX), 4);
    }

    private static void crash() {
        MailCore x = withMails(1);
        due("9: outside", x.crash(-1), -2);
        due("9: outside", x.crash(13), -2);
        x.destroy(MAIL, -1, 0);
        putBox(x, 60, 1000);
        due("9: a wrong one crashes nothing", x.run(), 2);
        for (int n = 0; n <= 12; n++) {
            due("9: crash", x.crash(n), 1);
            due("9: again", x.crash(12 - n), 1);
            putBox(x, 70, 1000);
            x.change(BOX, -1, 0, 0, 71);
            putMail(x, 0, 1, 1, 1000, 1000);
            x.get(BOX, -1, 0);
            due("10: cut", x.run(), -9);
            due("10: latest", x.told(4), 0);
            due("10: calls", x.told(3), 0);
            due("10: status", x.status(0), -9);
            due("10: many", x.many(0, 0), -1);
            due("10: given", x.given(0, 0, 0), -1);
            due("10: boxes", x.told(0) * 100 + x.told(10), 303);
            due("10: mails", x.told(1) * 100 + x.told(11), 1);
            due("10: states", x.state(BOX) * 100 + x.state(MAIL) * 10 + x.state(THREAD), 322);
            due("10: name", x.box(0, 0), 1);
            due("10: entries", x.told(5), 7);
            due("10: drafts stay", x.draft(0, 70), 70);
        }
        putBox(x, 70, 1000);
        due("9: the run behind is not cut", x.run(), 1);
        row("10: ids as if never given", x, 0, MADE, 3);
        x.crash(3);
        putBox(x, 72, 1000);
        due("11: drop", x.drop(), 1);
        due("9: a run of no calls is cut too, behind a drop", x.run(), -9);
        due("9: once", x.run(), 0);
    }

    private static void runAndDrop() {
        MailCore x = twoBoxes();
        due("10: latest", x.told(4), 2);
        due("10: none", x.run(), 0);
        due("10: latest", x.told(4), 0);
        due("10: status", x.status(0), -9);
        x.get(BOX, -1, 0);
        x.get(BOX, -1, 0);
        x.get(9, -1, 0);
        due("16: put", x.told(3), 3);
        due("10: good ones", x.run(), 2);
        due("16: put", x.told(3), 0);
        x.destroy(BOX, -1, 0);
        due("11: dropped", x.drop(), 1);
        due("11: none", x.drop(), 0);
        due("11: numbers begin anew", x.get(BOX, -1, 1), 0);
        due("11: the latest run stays", x.told(4), 3);
        row("11: the latest run stays", x, 1, MAIN, 0);
        due("10: run", x.run(), 1);
        due("11: nothing was done", x.told(0), 2);
    }

    private static void outcomes() {
        MailCore x = twoBoxes();
        x.query(-1, 0, 0, 9);
        x.changes(BOX, 0, 9);
        x.get(5, 0, 0);
        x.run();
        due("12: good", x.status(1), 0);
        due("12: not", x.status(2), -2);
        due("12: none", x.status(3), -9);
        due("12: below", x.status(-1), -9);
        due("12: far", x.status(Integer.MAX_VALUE), -9);
        due("13: many", x.many(1, 1), 2);
        due("13: of a failed one", x.many(2, 3), 0);
        due("13: row", x.many(1, 4), -1);
        due("13: row", x.many(1, -1), -1);
        due("13: call", x.many(3, 0), -1);
        due("13: call", x.many(-1, 0), -1);
        due("14: given", x.given(1, 1, 1), 1);
        due("14: behind", x.given(1, 1, 2), -1);
        due("14: ahead", x.given(1, 1, -1), -1);
        due("14: row", x.given(1, 4, 0), -1);
        due("14: row", x.given(1, -1, 0), -1);
        due("14: call", x.given(3, 1, 0), -1);
        due("14: call", x.given(-1, 1, 0), -1);
        x.get(BOX, -1, 0);
        due("12: of the latest run, as calls are put", x.status(2), -2);
        x.run();
        due("12: of the latest run alone", x.status(1), -9);
        due("13: of the latest run alone", x.many(1, 1), -1);
        due("14: of the latest run alone", x.given(1, 1, 0), -1);
        x.get(BOX, -1, -3);
        x.run();
        x.query(-1, 0, 0, 9);
        due("12: nothing of an earlier call stays", x.run(), 1);
    }

    private static void states() {
        MailCore x = withMails(2);
        due("15: boxes", x.state(BOX), 2);
        due("15: mails", x.state(MAIL), 2);
        due("15: threads", x.state(THREAD), 2);
        due("15: below", x.state(-1), -1);
        due("15: above", x.state(3), -1);
        putMail(x, 0, 1, 9, 0, 1);
        x.run();
        due("15: a thread that one comes to", x.state(THREAD), 3);
        x.query(-1, 3, 0, 2);
        x.destroy(MAIL, 0, MAIN);
        x.run();
        due("15: one a call", x.state(MAIL) * 10 + x.state(THREAD), 44);
        entries("20: by kinds, then by ids", x, 7, new int[] {2, 3, 0, 2}, new int[] {1, 4, 0, 3},
                new int[] {1, 4, 1, 3}, new int[] {2, 4, 0, 2}, new int[] {2, 4, 1, 3});
    }

    private static void told() {
        MailCore x = withMails(3);
        x.destroy(MAIL, -1, 1);
        x.destroy(BOX, -1, 1);
        x.run();
        x.filter(1, 0, 0);
        x.get(BOX, -1, 0);
        int[] want = {1, 2, 2, 1, 2, 11, 1, -2, -2, -2, 2, 3, 3, -2};
        for (int what = 0; what < want.length; what++) {
            due("16: told " + what, x.told(what), want[what]);
        }
        due("16: below", x.told(-1), -2);
        due("16: far", x.told(Integer.MIN_VALUE), -2);
    }

    private static void box() {
        MailCore x = new MailCore();
        x.draft(2, 6);
        putBox(x, 11, 1000);
        putBox(x, 12, -1);
        putBox(x, 13, -1);
        putBox(x, 14, -2);
        putMail(x, -2, 0, 0, 1000, 1000);
        putMail(x, -2, 0, 1, 1000, 1000);
        x.run();
        int[][] want = {{11, -9, 6, 0, 2, 1, -2}, {12, 0, 6, 2, 1, 2, -2}, {13, 0, 6, 0, 0, 2, -2}, {14, 1, 6, 0, 0, 3, -2}};
        for (int b = 0; b < want.length; b++) {
            for (int what = 0; what < 7; what++) {
                due("17: box " + b + ", " + what, x.box(b, what), want[b][what]);
            }
        }
        due("17: below", x.box(0, -1), -2);
        due("17: unknown ahead of outside", x.box(4, 9), -1);
        due("17: unknown", x.box(-1, 0), -1);
        due("17: unknown", x.box(Integer.MAX_VALUE, 0), -1);
        x.destroy(BOX, -1, 2);
        x.destroy(MAIL, -1, 1);
        x.run();
        due("17: gone", x.box(2, 0), -1);
        due("17: one fewer", x.box(0, 4), 1);
        due("17: one mail fewer", x.box(1, 3), 1);
    }

    private static void mail() {
        MailCore x = twoBoxes();
        sized(x, 300, 400, 5);
        putMail(x, 1, 7, 8, 9, 10);
        putMail(x, 0, 7, 11, 1000, 12);
        x.change(MAIL, -1, -1, 1, 0);
        x.run();
        int[] want = {7, 8, 9, 10, 300, 400, 5, 0, 2, -2};
        for (int what = 0; what < want.length; what++) {
            due("18: mail " + what, x.mail(0, what), want[what]);
        }
        due("18: in", x.mail(0, 20) * 10 + x.mail(0, 21), 11);
        due("18: in", x.mail(1, 20) * 10 + x.mail(1, 21), 10);
        due("18: names", x.mail(1, 2), -9);
        due("18: names", x.mail(1, 3), 12);
        due("18: thread", x.mail(1, 7), 1);
        int[] odd = {-1, 9, 19, 22, 39, 40, Integer.MAX_VALUE, Integer.MIN_VALUE};
        for (int what : odd) {
            due("18: outside " + what, x.mail(0, what), -2);
        }
        due("18: unknown", x.mail(2, 99), -1);
        due("18: unknown", x.mail(-1, 0), -1);
        putBox(x, 40, 1000);
        x.run();
        due("18: a box that came", x.mail(0, 22), 0);
        x.destroy(BOX, -1, 2);
        x.run();
        due("18: a box that went", x.mail(0, 22), -2);
    }

    private static void thread() {
        MailCore x = twoBoxes();
        putMail(x, 0, 1, 1, 1000, 1000);
        putMail(x, 0, 2, 1, 1000, 1000);
        putMail(x, 0, 1, 1, 1000, 1000);
        x.run();
        due("19: how many", x.thread(0, -1), 2);
        due("19: first", x.thread(0, 0), 0);
        due("19: second", x.thread(0, 1), 2);
        due("19: place", x.thread(0, 2), -1);
        due("19: place", x.thread(0, -2), -1);
        due("19: thread", x.thread(2, -1), -1);
        due("19: thread", x.thread(-1, -1), -1);
        due("19: thread", x.thread(Integer.MAX_VALUE, 0), -1);
        x.destroy(MAIL, -1, 0);
        x.destroy(MAIL, -1, 1);
        x.run();
        due("19: one went", x.thread(0, -1) * 10 + x.thread(0, 0), 12);
        due("19: all went", x.thread(1, -1), -1);
    }

    private static void entry() {
        MailCore x = twoBoxes();
        x.change(BOX, -1, 1, 2, 4);
        putMail(x, 0, 1, 1, 1000, 1000);
        putMail(x, 0, 1, 1, 1000, 1000);
        x.destroy(MAIL, -1, 0);
        x.destroy(MAIL, -1, 1);
        x.run();
        entries("20: all", x, 0, new int[] {0, 1, 0, 1}, new int[] {0, 2, 1, 1}, new int[] {0, 3, 1, 2},
                new int[] {1, 1, 0, 1}, new int[] {2, 1, 0, 1}, new int[] {1, 2, 1, 1}, new int[] {2, 2, 0, 2},
                new int[] {1, 3, 0, 3}, new int[] {2, 3, 0, 2}, new int[] {1, 4, 1, 3}, new int[] {2, 4, 0, 3});
        due("20: below", x.entry(-1, 0), -1);
        due("20: above", x.entry(11, 9), -1);
        due("20: what", x.entry(0, 4), -2);
        due("20: what", x.entry(10, -1), -2);
        for (int i = 0; i < 49; i++) {
            x.change(BOX, -1, 0, 2, i % 2 + 1);
            x.run();
        }
        due("20: full", x.told(5), 60);
        due("20: the eldest", x.entry(0, 2) * 10 + x.entry(0, 3), 1);
        x.change(BOX, -1, 0, 2, 9);
        x.run();
        due("20: full stays", x.told(5), 60);
        due("20: the eldest went", x.entry(0, 2) * 10 + x.entry(0, 3), 11);
        due("20: the newest", x.entry(59, 1), 53);
        due("20: behind it", x.entry(60, 1), -1);
    }

    private static void entriesOfAGreatCall() {
        MailCore x = withMails(40);
        x.query(-1, 7, 0, 99);
        x.destroy(MAIL, 0, MAIN);
        due("20: run", x.run(), 2);
        due("20: a call of more entries than there is room for", x.told(5), 60);
        due("20: mails first", x.entry(0, 0) * 100 + x.entry(0, 2), 120);
        due("20: then threads", x.entry(20, 0) * 100 + x.entry(20, 2), 200);
        due("20: the last", x.entry(59, 2), 39);
        x.changes(MAIL, 40, 99);
        x.changes(THREAD, 40, 99);
        x.changes(MAIL, 41, 99);
        x.run();
        status("20: partly driven out", x, 0, -6);
        due("20: threads are all there", x.many(1, GONE), 40);
        status("20: as it is", x, 2, 0);
    }

    private static void filter() {
        MailCore x = new MailCore();
        due("21: none to be of", x.filter(10, 0, 0), -1);
        due("21: kind", x.filter(11, 0, 0), -2);
        due("21: kind", x.filter(-1, 0, 0), -2);
        due("21: mark", x.filter(5, 4, 0), -2);
        due("21: mark", x.filter(5, -1, 0), -2);
        due("21: the first", x.filter(0, -7, 99), 0);
        due("21: itself", x.filter(10, 1, 0), -1);
        due("21: not", x.filter(10, 0, -5), 1);
        due("21: a", x.filter(8, 2, 0), -1);
        due("21: b", x.filter(8, 0, 2), -1);
        due("21: a", x.filter(9, -1, 0), -1);
        due("21: b", x.filter(9, 0, -1), -1);
        due("21: both", x.filter(8, 0, 1), 2);
        due("21: one", x.filter(9, 2, 2), 3);
        for (int kind = 0; kind < 8; kind++) {
            due("21: b is not looked at", x.filter(kind, 3, -1), 4 + kind);
        }
        for (int f = 12; f < 20; f++) {
            due("21: number", x.filter(1, Integer.MIN_VALUE, f), f);
        }
        due("21: full", x.filter(1, 0, 0), -4);
        due("21: unknown ahead of full", x.filter(10, 20, 0), -1);
        due("21: outside ahead of full", x.filter(5, 9, 0), -2);
        due("21: how many", x.told(6), 20);
    }

    private static void fits() {
        MailCore x = twoBoxes();
        sized(x, 300, 400, 5);
        putMail(x, 1, 7, 8, 1000, 1000);
        sized(x, 301, 401, 10);
        putMail(x, 0, 8, 8, 1000, 1000);
        x.run();
        int[][] of = {{0, 1, 0, 1, 0}, {1, 401, 0, 1, 0}, {2, 401, 0, 0, 1}, {3, 301, 0, 1, 0}, {4, 301, 0, 0, 1},
            {5, 0, 0, 1, 0}, {5, 1, 0, 0, 1}, {5, 3, 0, 0, 1}, {6, 7, 0, 1, 0}, {7, 1, 0, 0, 1}, {0, 20, 0, 0, 0},
            {8, 0, 1, 1, 0}, {8, 0, 2, 0, 0}, {9, 0, 2, 1, 1}, {9, 2, 4, 0, 1}, {10, 12, 0, 1, 1}, {10, 0, 0, 0, 1},
            {8, 15, 16, 0, 1}, {10, 17, 0, 1, 0}, {0, -13, 0, 0, 0}};
        for (int f = 0; f < of.length; f++) {
            due("21: number", x.filter(of[f][0], of[f][1], of[f][2]), f);
            due("22: filter " + f, x.fits(0, f), of[f][3]);
            due("22: filter " + f, x.fits(1, f), of[f][4]);
        }
        due("22: mail", x.fits(2, 0), -1);
        due("22: mail", x.fits(-1, 0), -1);
        due("22: filter", x.fits(0, 20), -1);
        due("22: filter", x.fits(0, -1), -1);
        x.query(18, 0, 0, 9);
        x.destroy(MAIL, -1, 0);
        x.query(17, 0, 0, 9);
        x.run();
        row("22: as queries have it", x, 0, MAIN, 0);
        row("22: as queries have it", x, 2, MAIN, 1);
        due("22: a mail that went", x.fits(0, 0), -1);
    }

    public static void main(String[] args) {
        newObject();
        draft();
        draftIsTakenAsPut();
        get();
        query();
        changes();
        changesWithinARequest();
        changesOfWhatWasDrivenOut();
        makeBoxes();
        makeBoxesWithoutRoom();
        makeMails();
        makeMailsWithoutRoom();
        threadsGather();
        changeBoxes();
        changeIsAsTold();
        changeMails();
        changeFailsAsAWhole();
        destroy();
        destroyFailsAsAWhole();
        destroyOneBehindTheOther();
        crash();
        runAndDrop();
        outcomes();
        states();
        told();
        box();
        mail();
        thread();
        entry();
        entriesOfAGreatCall();
        filter();
        fits();
        System.out.println(checks + " answers looked at, " + wrong + " not as due");
        if (wrong != 0) {
            System.exit(1);
        }
    }
}
