/** Promises 1 to 5, 22 and 32: what is told and looked at. */
public final class TellTest {
    private static final Check CHECK = new Check();

    public static void main(String[] args) {
        promise01NewObject();
        promise02Notches();
        nothingIsWorthAnythingAnew();
        promise03Sky();
        promise04Plot();
        promise05Set();
        promise22Pay();
        promise32Look();
        CHECK.close();
    }

    private static void promise01NewObject() {
        TurnedIsland x = new TurnedIsland();
        int[] first = {12, 0, 0, 99, 0, 0, 0, 0, 0, 0, 0, 0, 0, 0};
        for (int what = 0; what < first.length; what++) {
            CHECK.due("new: look(" + what + ")", x.look(what), first[what]);
        }
        CHECK.due("NONE", TurnedIsland.NONE, -1);
        CHECK.due("new: fault(0)", x.fault(0), 0);
        CHECK.due("new: fault(1)", x.fault(1), -1);
        CHECK.no("new: image(false)", x.image(false));
        CHECK.no("new: undo()", x.undo());
        CHECK.due("new: quarrel()", x.quarrel(), -1);
        CHECK.due("new: turned(0)", x.turned(0), -1);
        CHECK.due("new: back(0, 1, 0)", x.back(0, 1, 0), 108);
    }

    /** An island on which everything was told. */
    private static TurnedIsland full() {
        TurnedIsland x = new TurnedIsland();
        Check.tell(x, 1, "worth sun;");
        x.sky(0, 0, 3, 5);
        x.plot(2, 3, 1, 40);
        x.plot(5, 4, 4, 50);
        x.set(2, 7);
        x.set(3, 8);
        x.set(0, 6);
        x.set(1, 4);
        x.sell(0, 1, 5, 6, 1);
        x.promise(1, 1, 0, 9);
        x.plan(0, 1);
        x.log(0, 0, 0);
        x.pay(1, 33);
        x.noons(2);
        return x;
    }

    private static void promise02Notches() {
        TurnedIsland x = full();
        for (int n : new int[] {3, 25, 0, -1, Integer.MIN_VALUE, Integer.MAX_VALUE}) {
            CHECK.no("notches(" + n + ")", x.notches(n));
        }
        CHECK.due("refused notches leave the plots", x.look(5), 2);
        CHECK.due("refused notches leave what can be undone", x.look(9), 2);
        x.image(true);
        Check.tell(x, 0, "worth");
        Check.feed(x, "worth 1;");
        CHECK.yes("notches(24)", x.notches(24));
        int[] first = {24, 0, 0, 99, 0, 0, 0, 0, 0, 0, 0, 0, 0, 0};
        for (int what = 0; what < first.length; what++) {
            CHECK.due("told anew: look(" + what + ")", x.look(what), first[what]);
        }
        CHECK.due("fault() stays", x.fault(0), 1);
        CHECK.due("fault()'s place stays", x.fault(1), 5);
        CHECK.due("the tape stays", x.text(0), 1);
        CHECK.due("the book is empty", x.turned(4), -1);
        Check.tell(x, 0, "worth sun;");
        CHECK.due("plot", x.plot(0, 1, 0, 0), 0);
        CHECK.due("the sky is empty", x.worth(0, 0, 3, 0), 0);
        CHECK.due("the plans are empty", x.boat(0, 0, 1), -1);
        CHECK.due("the payment is gone", x.look(20), 0);
        CHECK.due("angle 23 is there", x.worth(0, 0, 23, 0), 0);
        CHECK.yes("the image stays", x.image(false));
        CHECK.due("notches of the image", x.look(0), 12);
        CHECK.yes("notches told as they were", x.notches(12));
        CHECK.due("all is as at first then too", x.look(5), 0);
        CHECK.yes("notches(4)", x.notches(4));
        CHECK.no("angle 4 of 4", x.set(0, 4));
        CHECK.yes("angle 3 of 4", x.set(0, 3));
    }

    private static void nothingIsWorthAnythingAnew() {
        TurnedIsland x = new TurnedIsland();
        Check.tell(x, 0, "worth 5;");
        x.plot(0, 1, 0, 0);
        CHECK.due("worth with a want", x.worth(0, 0, 3, 0), 5);
        x.notches(12);
        x.plot(0, 1, 0, 0);
        CHECK.due("worth with an empty want", x.worth(0, 0, 3, 0), 0);
    }

    private static void promise03Sky() {
        TurnedIsland x = new TurnedIsland();
        String[] kinds = {"sun", "wind", "current"};
        for (int k = 0; k < 3; k++) {
            Check.tell(x, k, "worth " + kinds[k] + ";");
            x.plot(0, 1, k, 0);
        }
        for (int what = 0; what < 3; what++) {
            CHECK.yes("sky -9", x.sky(what, 11, 11, -9 + what));
            CHECK.yes("sky 9", x.sky(what, 0, 0, 9 - what));
        }
        for (int what = 0; what < 3; what++) {
            CHECK.due("last month", x.worth(what, 359, 11, 0), -9 + what);
            CHECK.due("first month", x.worth(what, 360, 0, 0), 9 - what);
            CHECK.due("month between", x.worth(what, 30, 0, 0), 0);
        }
        int[][] wrong = {{-1, 0, 0, 0}, {3, 0, 0, 0}, {0, -1, 0, 0}, {0, 12, 0, 0}, {0, 0, -1, 0}, {0, 0, 12, 0},
            {0, 0, 0, -10}, {0, 0, 0, 10}, {Integer.MAX_VALUE, Integer.MAX_VALUE, Integer.MAX_VALUE, 0}};
        for (int[] w : wrong) {
            CHECK.no("sky out of range", x.sky(w[0], w[1], w[2], w[3]));
        }
        CHECK.due("refused ones change nothing", x.worth(0, 0, 0, 0), 9);
        CHECK.yes("sky anew", x.sky(0, 0, 0, 1));
        CHECK.due("a sky told anew is seen at once", x.worth(0, 0, 0, 0), 1);
    }

    private static void promise04Plot() {
        TurnedIsland x = new TurnedIsland();
        int[][] wrong = {{-1, 1, 0, 0}, {12, 1, 0, 0}, {0, 0, 0, 0}, {0, 10, 0, 0}, {0, 1, -1, 0}, {0, 1, 5, 0},
            {0, 1, 0, 100000}, {0, 1, 0, -100000}};
        for (int[] w : wrong) {
            CHECK.due("plot out of range", x.plot(w[0], w[1], w[2], w[3]), -1);
        }
        CHECK.due("none came", x.look(5), 0);
        for (int p = 0; p < 10; p++) {
            CHECK.due("plot", x.plot(11 - p, 1 + p % 9, p % 5, p % 2 == 0 ? 99999 : -99999), p);
        }
        CHECK.due("an eleventh plot", x.plot(0, 1, 0, 0), -1);
        CHECK.due("plots", x.look(5), 10);
        for (int p = 0; p < 10; p++) {
            CHECK.due("place", x.of(p, 0), 11 - p);
            CHECK.due("weight", x.of(p, 1), 1 + p % 9);
            CHECK.due("want", x.of(p, 2), p % 5);
            CHECK.due("coin", x.of(p, 3), p % 2 == 0 ? 99999 : -99999);
        }
    }

    private static void promise05Set() {
        TurnedIsland x = new TurnedIsland();
        int[] most = {11, 9999, 999, 99};
        for (int what = 0; what < 4; what++) {
            CHECK.yes("set most", x.set(what, most[what]));
            CHECK.due("most is set", x.look(what + 1), most[what]);
            CHECK.no("set more", x.set(what, most[what] + 1));
            CHECK.no("set below 0", x.set(what, -1));
            CHECK.due("most is left", x.look(what + 1), most[what]);
            CHECK.yes("set 0", x.set(what, 0));
            CHECK.due("0 is set", x.look(what + 1), 0);
        }
        CHECK.no("set(-1, 0)", x.set(-1, 0));
        CHECK.no("set(4, 0)", x.set(4, 0));
        x.noons(3);
        CHECK.yes("angle told", x.set(0, 1));
        CHECK.due("the book stays when an angle is told", x.turned(2), 2);
        CHECK.yes("the day it is, told", x.set(1, 3));
        CHECK.due("the book goes when a day is told", x.turned(2), -1);
    }

    private static void promise22Pay() {
        TurnedIsland x = new TurnedIsland();
        CHECK.no("pay without plots", x.pay(0, 1));
        x.plot(0, 1, 4, 0);
        x.plot(0, 1, 4, 0);
        CHECK.yes("pay most", x.pay(0, 99999));
        CHECK.yes("pay least", x.pay(1, -99999));
        CHECK.no("pay more", x.pay(0, 100000));
        CHECK.no("pay less", x.pay(0, -100000));
        CHECK.no("pay(-1, 0)", x.pay(-1, 0));
        CHECK.no("pay(2, 0)", x.pay(2, 0));
        CHECK.due("payment of 0", x.look(20), 99999);
        CHECK.due("payment of 1", x.look(21), -99999);
        CHECK.due("coin is not touched", x.of(0, 3), 0);
    }

    private static void promise32Look() {
        TurnedIsland x = full();
        int[] due = {12, 6, 6, 7, 8, 2, 1, 1, 1, 2, 0, 1, 0, 0};
        // Owner 1 has four of seven weights and promised 1: both noons turn.
        due[1] = 8;
        due[3] = 5;
        for (int what = 0; what < due.length; what++) {
            CHECK.due("look(" + what + ")", x.look(what), due[what]);
        }
        CHECK.due("look(20)", x.look(20), 0);
        CHECK.due("look(21)", x.look(21), 33);
        for (int what : new int[] {-1, 14, 15, 19, 22, 30, Integer.MIN_VALUE, Integer.MAX_VALUE}) {
            CHECK.due("look(" + what + ")", x.look(what), -100000);
        }
    }
}
