/** Promises 1 to 5 and 20: the tape, faults, what texts become. */
public final class TextTest {
    public static void main(String[] args) {
        newObject();
        feedAndEnd();
        workshopFaults();
        lawFaults();
        makingFaults();
        texts();
        steps();
        Due.close();
    }

    private static void newObject() {
        UndoTrade x = new UndoTrade();
        int[] due = {0, 0, 0, 0, 0, -1, 0, 0, 3, 0, 0, 0};
        for (int what = 0; what < due.length; what++) {
            Due.due("new count(" + what + ")", x.count(what), due[what]);
        }
        Due.due("new rows()", x.rows(), -1);
        Due.due("new apprentice(0, 0)", Due.apprentice(x, 0, 0), -2);
        Due.due("new back()", x.back(), -1);
    }

    private static void feedAndEnd() {
        UndoTrade x = new UndoTrade();
        Due.due("feed nothing", x.feed(0, 0, 0, 0, 0), 0);
        Due.due("feed with gaps", x.feed(0x61000000, 0x00006b00, 0x00000031, 0, 0), 3);
        Due.due("fault of ak1", x.fault(0), -1);
        Due.due("end(4)", x.end(4), false);
        Due.due("end(-1)", x.end(-1), false);
        Due.due("count(4)", x.count(4), 3);
        Due.due("end(3)", x.end(3), true);
        Due.due("end(2)", x.end(2), true);
        Due.due("count(4)", x.count(4), 2);
        Due.due("fault of ak", x.fault(0), 2);
        x.end(0);
        for (int i = 1; i <= 12; i++) {
            Due.due("feed " + i, x.feed(-1, -1, -1, -1, -1), 20 * i);
        }
        Due.due("feed beyond", x.feed(0, 0, 0, 0, 1), -1);
        Due.due("feed nothing to the full", x.feed(0, 0, 0, 0, 0), 240);
        Due.due("end(230)", x.end(230), true);
        Due.due("feed beyond as a whole", x.feed(-1, -1, -1, 0, 0), -1);
        Due.due("count(4)", x.count(4), 230);
        Due.due("feed up to the bound", x.feed(-1, -1, 0x0100ff00, 0, 0), 240);
        Due.due("fault of 255", x.fault(0), 0);
        for (int word = 0; word < 5; word++) {
            int[] w = new int[5];
            w[word] = 0x0a0b0c0d;
            x.end(237);
            Due.due("one too many in word " + word, x.feed(w[0], w[1], w[2], w[3], w[4]), -1);
            x.end(236);
            Due.due("as many as can be in word " + word, x.feed(w[0], w[1], w[2], w[3], w[4]), 240);
        }
    }

    private static void faults(int sort, Object... cases) {
        UndoTrade x = new UndoTrade();
        for (int i = 0; i < cases.length; i += 2) {
            String text = (String) cases[i];
            int length = Due.tape(x, text);
            int want = (Integer) cases[i + 1];
            Due.due("fault(" + sort + ") of '" + text + "'", x.fault(sort), want);
            Due.due("it leaves the tape", x.count(4), length);
            if (want != -1) {
                Due.due("text(" + sort + ") of '" + text + "'", x.text(sort), -1);
                Due.due("a refused text leaves the tape", x.count(4), length);
            }
        }
        Due.due("fault(-1)", x.fault(-1), -2);
        Due.due("fault(3)", x.fault(3), -2);
    }

    private static void workshopFaults() {
        faults(0, "", 0, "   ", 3, "a", -1, "s;a", -1, "a;s", -1, "s", 1, "sm4 ", 4, "s m4;", 5, "a;", 2, "a;;a", 2,
                "sm0;a", 2, "sm00;a", 3, "sm01;a", -1, "sm12;a", -1, "sm13;a", 3, "sm99;a", 3, "sm120;a", 4,
                "sm999;a", 4, "sm1 2;a", 4, "sm1m2;a", 3, "sk1;a", 1, "sm;a", 2, "s1;a", 1,
                "ak31", -1, "ak32", 3, "ak031", 4, "ak0r0", -1, "ar1k9", -1, "ar2", 2, "ar20", 3, "ar01", -1,
                "a;ak", 4, "a;ar", 4, "a;sm", 4, "ak1k2", 3, "ar1r1", 3, "ak1r1k1", 5, "am1", 1, "ak", 2, "akr", 2, "a k 1 2", 6,
                "s;s;a", 2, "a;s;s", 4, "a;a;a;a", -1, "a;a;a;a;a", 8, "a;a;s;a;a", -1, "a;a;a;a;s;a", 10,
                "a;a;a;a;s;", 10, "a;a;a;a;sm2", -1, "a,a", 1, "A", 0, "\ta", 0, "a" + (char) 200, 1);
    }

    private static void lawFaults() {
        faults(1, "", 0, "y", 1, "y:", 2, "y:1", -1, "y:1;", 4, "y:1;y:2", -1, "y:1;z:2", 4, "y1", 1, "1", 0,
                "y:1234", -1, "y:12345", 6, "y:0000", -1, "y:00000", 6, "y:1 2", 4, "y:1+", 4, "y:1+-1", 4, "y:-1", 2, "y:2*", 4, "y:2/;y:1", 4,
                "y:w=?1", 4, "y:w=1?[[[[[[1]]]]]]", -1,
                "y:w+i*x-n/b+t", -1, "y:a", 2, "y:[1]", -1, "y:[1", 4, "y:[1)", 4, "y:1]", 3, "y:[]", 3,
                "y:w=1", 5, "y:w=1?", 6, "y:w=1?2", -1, "y:w?2", 3, "y:w&1=1?2", 3, "y:w=1;", 5, "y:w=1=1?2", 5,
                "y:w=1&2?3", 7, "y:w=1&i=2|x=3?4", -1, "y:w=1|?4", 6, "y:w<1?2=3", 7, "y:w=1?2?3", 7,
                "y:w==1?2", 4, "y:w>=1?2", 4, "y:(w=1)?2", -1, "y:(w=1)", 7, "y:(w)", 4, "y:(1)=1?2", 4, "y:(w=1)=1?2", 7,
                "y:(w=1|x=2)&!i=3?4", -1, "y:!w=1?2", -1, "y:!w?2", 4, "y:!(w=1)?2", -1, "y:w=1&(x=2|i=1)?2", -1,
                "y:w=(1)?2", 4, "y:w=1)?2", 5, "y:w=1?(2)", 6, "y:w=1?!2", 6, "y:((w=1)?2", 8,
                "y:!!!!!!w=1?1", -1, "y:!!!!!!!w=1?1", 8, "y:[[[[[[1]]]]]]", -1, "y:[[[[[[[1]]]]]]]", 8,
                "y:((((((w=1))))))?1", -1, "y:(((((((w=1)))))))?1", 8, "y:(!([!", 6, "y:!(!([[1]]=1))?1", -1,
                "y:!(!([[[1]]]=1))?1", 8, "y:!!!!!w=[1]?1", -1, "y:!!!!!!w=[1]?1", 10, "y:!!!!!!w=1?[1]", -1,
                "y:!!!w=1&!!!!!!i=1?1", -1, "y:!!!w=1&!!!!!!!i=1?1", 15, "y:[1]+[[[[[[1]]]]]]", -1,
                " y : w = 1 ? [ 2 + x ] ; y : 3 ", -1, "y:w=1?2;y:i>1?3;y:4", -1, "y:1/0", -1, "y:W", 2);
    }

    private static void makingFaults() {
        StringBuilder sixteen = new StringBuilder("t0");
        for (int i = 1; i < 16; i++) {
            sixteen.append(";t0");
        }
        faults(2, "", 0, "p", 1, "p0", 2, "p00", -1, "p000", 3, "p00;", 4, "t", 1, "t0", -1, "t00", 2, "c", 1, "c0", 2,
                "c00", -1, "j00", -1, "j0", 2, "h9", -1, "h99", 2, "z", 0, "p00;z", 4, "p00,t0", 3, "p00;;t0", 4,
                " p 9 9 ; t 7 ; c 0 0 ; j 8 9 ; h 6 ", -1, "px0", 1, "p0x", 2, "P00", 0,
                sixteen.toString(), -1, sixteen + " ", -1, sixteen + ";", 47, sixteen + ";t0", 47, sixteen + " ;t0", 48,
                sixteen + "x", 47, sixteen + "1", 47);
    }

    private static void texts() {
        UndoTrade x = new UndoTrade();
        Due.due("law 0", Due.tell(x, 1, "y:1"), 0);
        Due.due("the tape is empty then", x.count(4), 0);
        Due.due("making 0", Due.tell(x, 2, "p00;t0"), 0);
        Due.due("three apprentices", Due.tell(x, 0, "ak3;sm5;ar0;ak31r1"), 3);
        Due.due("count(4)", x.count(4), 0);
        int[] due = {3, 0, 1, 1, 0, -1, 0, 5, 3, 0, 0, 0};
        for (int what = 0; what < due.length; what++) {
            Due.due("count(" + what + ")", x.count(what), due[what]);
        }
        Due.due("count(12)", x.count(12), -1000000);
        Due.due("count(-1)", x.count(-1), -1000000);
        int[] knows = {3, 0, 31};
        int[] room = {1, 0, 1};
        for (int a = 0; a < 3; a++) {
            Due.due("knows " + a, Due.apprentice(x, a, 0), knows[a]);
            Due.due("room " + a, Due.apprentice(x, a, 1), room[a]);
        }
        Due.due("apprentice(3, 0)", Due.apprentice(x, 3, 0), -2);
        Due.due("apprentice(-1, 0)", Due.apprentice(x, -1, 0), -2);
        Due.due("apprentice(0, 2)", Due.apprentice(x, 0, 2), -2);
        Due.due("apprentice(0, -1)", Due.apprentice(x, 0, -1), -2);
        for (int i = 1; i < 4; i++) {
            Due.due("law " + i, Due.tell(x, 1, "y:2"), i);
            Due.due("making " + i, Due.tell(x, 2, "p11"), i);
        }
        Due.due("a fifth law", Due.tell(x, 1, "y:2"), -1);
        Due.due("its tape stays", x.count(4), 3);
        Due.due("a fifth making", Due.tell(x, 2, "p11"), -1);
        UndoTrade y = new UndoTrade();
        Due.tape(y, "p00");
        Due.due("text(3)", y.text(3), -1);
        Due.due("text(-1)", y.text(-1), -1);
        Due.due("text(2)", y.text(2), 0);
        anotherWorkshop(x);
    }

    private static void anotherWorkshop(UndoTrade x) {
        x.law(2);
        x.haste(7);
        x.perform(0);
        x.seen(0, 1, true);
        x.image();
        Due.due("time", x.count(6), 2);
        Due.due("a fault", Due.tell(x, 0, "a;"), -1);
        Due.due("changes nothing", x.count(6), 2);
        Due.due("another one", Due.tell(x, 0, "a"), 1);
        int[] due = {1, 0, 4, 4, 0, 2, 0, 12, 7, 0, 0, 0};
        for (int what = 0; what < due.length; what++) {
            Due.due("count(" + what + ") of another one", x.count(what), due[what]);
        }
        Due.due("its image is gone", x.back(), -1);
        Due.due("undo()", x.undo(), -1);
        Due.due("knows nothing", Due.apprentice(x, 0, 0), 0);
        Due.due("apprentice(1, 0)", Due.apprentice(x, 1, 0), -2);
    }

    private static void steps() {
        UndoTrade x = new UndoTrade();
        Due.tell(x, 2, "p98;t7;c60;j54;h3");
        int[][] due = {{0, 9, 8}, {1, 7, 0}, {2, 6, 0}, {3, 5, 4}, {4, 3, 0}};
        for (int i = 0; i < due.length; i++) {
            for (int what = 0; what < 3; what++) {
                Due.due("step(0, " + i + ", " + what + ")", x.step(0, i, what), due[i][what]);
            }
        }
        Due.due("step(0, 5, 0)", x.step(0, 5, 0), -1);
        Due.due("step(0, -1, 0)", x.step(0, -1, 0), -1);
        Due.due("step(1, 0, 0)", x.step(1, 0, 0), -1);
        Due.due("step(-1, 0, 0)", x.step(-1, 0, 0), -1);
        Due.due("step(0, 0, 3)", x.step(0, 0, 3), -1);
        Due.due("step(0, 0, -1)", x.step(0, 0, -1), -1);
    }
}
