/** Promise 31: the image. */
public final class ImageTest {
    private static final Check CHECK = new Check();

    public static void main(String[] args) {
        promise31Image();
        imageHoldsAll();
        worthsAreTheImages();
        CHECK.close();
    }

    private static void promise31Image() {
        TurnedIsland x = new TurnedIsland();
        CHECK.no("no image yet", x.image(false));
        CHECK.yes("taken", x.image(true));
        x.plot(0, 1, 4, 0);
        Check.tell(x, 0, "worth 1/0;");
        Check.feed(x, "worth 7;");
        x.noons(2);
        CHECK.yes("gone back", x.image(false));
        CHECK.due("no plots", x.look(5), 0);
        CHECK.due("nothing to undo", x.look(9), 0);
        CHECK.due("fault() is not in the image", x.fault(0), 2);
        CHECK.due("nor its place", x.fault(1), 8);
        CHECK.due("nor the tape", x.text(1), 1);
        CHECK.yes("gone back once more", x.image(false));
        CHECK.due("the want is gone", x.look(11), 0);
        x.set(0, 5);
        CHECK.yes("taken anew", x.image(true));
        x.set(0, 6);
        x.image(false);
        CHECK.due("the later image", x.look(1), 5);
    }

    private static void worthsAreTheImages() {
        TurnedIsland x = new TurnedIsland();
        Check.tell(x, 0, "worth sun+1;");
        x.sky(0, 0, 3, 6);
        x.plot(0, 1, 0, 0);
        x.image(true);
        CHECK.due("worth", x.worth(0, 0, 3, 0), 7);
        x.sky(0, 0, 3, 2);
        CHECK.due("worth under another sky", x.worth(0, 0, 3, 0), 3);
        x.image(false);
        CHECK.due("worth under the image's sky", x.worth(0, 0, 3, 0), 7);
        Check.tell(x, 0, "worth 2;");
        CHECK.due("worth by another want", x.worth(0, 0, 3, 0), 2);
        x.image(false);
        CHECK.due("worth by the image's want", x.worth(0, 0, 3, 0), 7);
    }

    private static TurnedIsland told() {
        TurnedIsland x = new TurnedIsland();
        x.notches(8);
        Check.tell(x, 0, "worth sun*3 when angle>2;worth day;");
        x.sky(0, 0, 3, 6);
        x.plot(1, 3, 0, 11);
        x.plot(6, 2, 4, 12);
        x.set(0, 2);
        x.set(2, 20);
        x.set(3, 4);
        x.promise(1, -1, 0, 30);
        x.promise(0, 1, 0, 3);
        x.promise(0, 0, 1, 2);
        x.promise(0, -1, 9, 9);
        x.drop(1);
        x.sell(1, 0, 4, 6, 5);
        x.plan(3, 1);
        x.log(2, 0, 4);
        x.pay(1, -8);
        x.noons(3);
        return x;
    }

    private static long[] answers(TurnedIsland x) {
        long[] a = new long[120];
        int n = 0;
        for (int what = 0; what < 14; what++) {
            // What can be undone is no part of the image.
            a[n++] = what == 9 ? 0 : x.look(what);
        }
        for (int p = 0; p < 3; p++) {
            a[n++] = x.look(20 + p);
            for (int what = 0; what < 7; what++) {
                a[n++] = x.of(p, what);
            }
            a[n++] = x.votes(p);
            a[n++] = x.holder(p, 4);
            a[n++] = x.fewest(p);
            a[n++] = x.boat(p, 0, 4);
            a[n++] = x.worth(p, 4, 2, 0);
        }
        for (int day = 0; day < 6; day++) {
            a[n++] = x.turned(day);
        }
        a[n++] = x.quarrel();
        a[n++] = x.back(1, 4, 0);
        a[n++] = x.back(1, 4, 10);
        a[n++] = x.best(5, 0);
        a[n++] = x.fair(3, 1);
        a[n++] = x.leave(2);
        a[n++] = x.drop(1) ? 1 : 0;
        a[n++] = x.noons(4);
        a[n++] = x.of(0, 3);
        a[n++] = x.of(1, 3);
        return a;
    }

    private static void imageHoldsAll() {
        long[] due = answers(told());
        TurnedIsland x = told();
        x.image(true);
        for (int round = 0; round < 3; round++) {
            disturb(x, round);
            CHECK.yes("gone back", x.image(false));
            long[] got = answers(x);
            for (int i = 0; i < due.length; i++) {
                CHECK.due("round " + round + ", answer " + i, got[i], due[i]);
            }
        }
    }

    private static void disturb(TurnedIsland x, int round) {
        if (round == 1) {
            x.notches(5);
        }
        Check.tell(x, 0, "worth 4;");
        x.sky(0, 0, 3, -6);
        x.plot(2, 9, 0, 0);
        x.set(0, 0);
        x.set(2, 1);
        x.set(3, 1);
        x.drop(0);
        x.drop(2);
        x.promise(1, 1, 0, 99);
        x.sell(0, 1, 8, 20, 77);
        x.plan(0, -1);
        x.log(3, 0, 0);
        x.pay(0, 5);
        x.pay(1, 5);
        x.noons(6);
        x.set(1, 100);
    }
}
