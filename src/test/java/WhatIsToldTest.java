/** Promises 1 to 6: a new object, module, routine, op, drop, limit. */
public final class WhatIsToldTest {
    public static void main(String[] args) {
        promise1NewObject();
        promise2Module();
        promise3Routine();
        promise4OpNumbers();
        promise4OpFull();
        promise5Drop();
        promise6Limit();
        changesTakeTheImage();
        refusalsLeaveTheImage();
        Due.finish();
    }

    private static void promise1NewObject() {
        Counted x = new Counted();
        for (int what = 0; what < 3; what++) Due.due("new: count(" + what + ")", x.count(what), 0);
        for (int what = 3; what < 8; what++) Due.due("new: count(" + what + ")", x.count(what), Samples.STATE);
        Due.due("new: fault(0)", x.fault(0), 0);
        Due.due("new: fault(1)", x.fault(1), Samples.NONE);
        Due.due("new: fault(2)", x.fault(2), Samples.NONE);
        Due.due("new: image(-1, 0)", x.image(-1, 0), Samples.STATE);
        Due.due("new: image(3, 0)", x.image(3, 0), Samples.STATE);
        for (int which = 0; which < 2; which++) {
            Samples.dueTold("new", x, which, 0, 0, 0, 0, 0);
            Samples.dueOut("new", x, which);
        }
        int[] first = {4, 100, 200, 20, 32};
        for (int what = 0; what < 5; what++) Due.due("new: limit " + what, x.limit(what, 8), first[what]);
    }

    private static void promise2Module() {
        Counted x = new Counted();
        for (int m = 0; m < 12; m++) {
            Due.due("module(2)", x.module(2), Samples.BAD);
            Due.due("module(-1)", x.module(-1), Samples.BAD);
            Due.due("module " + m, x.module(m % 2), m);
            Due.due("count(0)", x.count(0), m + 1);
        }
        Due.due("module 12", x.module(0), Samples.FULL);
        Due.due("module 12", x.module(1), Samples.FULL);
        Due.due("BAD is ahead of FULL", x.module(2), Samples.BAD);
        Due.due("count(0)", x.count(0), 12);
        for (int wild : Samples.WILD) Due.due("wild kind", x.module(wild), Samples.BAD);
    }

    private static void promise3Routine() {
        Counted x = new Counted();
        Due.due("no module", x.routine(0, 0), Samples.BAD);
        x.module(0);
        x.module(1);
        Due.due("module 2", x.routine(2, 0), Samples.BAD);
        Due.due("module -1", x.routine(-1, 0), Samples.BAD);
        Due.due("10 locals", x.routine(0, 10), Samples.BAD);
        Due.due("-1 locals", x.routine(0, -1), Samples.BAD);
        for (int r = 0; r < 30; r++) {
            Due.due("routine " + r, x.routine(r % 2, r % 10), r);
            Due.due("count(1)", x.count(1), r + 1);
            Due.due("it has no ops", x.drop(r), Samples.NONE);
        }
        Due.due("routine 30", x.routine(0, 0), Samples.FULL);
        Due.due("BAD is ahead of FULL", x.routine(2, 0), Samples.BAD);
        Due.due("BAD is ahead of FULL", x.routine(0, 10), Samples.BAD);
        Due.due("count(1)", x.count(1), 30);
        for (int wild : Samples.WILD) {
            Due.due("wild module", x.routine(wild, 0), Samples.BAD);
            Due.due("wild locals", x.routine(0, wild), Samples.BAD);
        }
    }

    private static void promise4OpNumbers() {
        Counted x = Samples.single(0, 3);
        x.routine(0, 0);
        int[] least = {0, 0, -9, 0, 0, 0, 0, 0, Integer.MIN_VALUE};
        int[] most = {255, 255, 999, 2, 2, 1, 40, 40, Integer.MAX_VALUE};
        int now = 0;
        for (int code = 0; code < 9; code++) {
            Due.due("least v of op " + code, x.op(0, code, least[code]), ++now);
            Due.due("most v of op " + code, x.op(0, code, most[code]), ++now);
            if (code == Samples.TELL || code == Samples.BACK) continue;
            Due.due("v too small, op " + code, x.op(0, code, least[code] - 1), Samples.BAD);
            Due.due("v too great, op " + code, x.op(0, code, most[code] + 1), Samples.BAD);
            for (int wild : Samples.WILD) Due.due("wild v", x.op(0, code, wild), Samples.BAD);
        }
        Due.due("count(2)", x.count(2), now);
        Due.due("op 9", x.op(0, 9, 0), Samples.BAD);
        Due.due("op -1", x.op(0, -1, 0), Samples.BAD);
        Due.due("routine 2", x.op(2, 0, 0), Samples.BAD);
        Due.due("routine -1", x.op(-1, 0, 0), Samples.BAD);
        Due.due("no locals to load", x.op(1, Samples.LOAD, 0), Samples.BAD);
        Due.due("no locals to store", x.op(1, Samples.STORE, 0), Samples.BAD);
        for (int wild : Samples.WILD) {
            Due.due("wild routine", x.op(wild, 0, 0), Samples.BAD);
            Due.due("wild op", x.op(0, wild, 0), Samples.BAD);
        }
        Due.due("count(2)", x.count(2), now);
    }

    private static void promise4OpFull() {
        Counted x = Samples.single(1, 1);
        for (int i = 1; i <= 40; i++) Due.due("op " + i, x.op(0, Samples.TELL, 0), i);
        Due.due("op 41", x.op(0, Samples.TELL, 0), Samples.FULL);
        Due.due("BAD is ahead of FULL", x.op(0, Samples.SET, 256), Samples.BAD);
        Due.due("BAD is ahead of FULL", x.op(0, Samples.LOAD, 1), Samples.BAD);
        Due.due("count(2)", x.count(2), 40);
        Due.due("drop", x.drop(0), 39);
        Due.due("op 40 again", x.op(0, Samples.SET, 255), 40);
    }

    private static void promise5Drop() {
        Counted x = Samples.single(0, 0);
        x.routine(0, 0);
        Samples.ops(x, 0, Samples.SET, 4, Samples.TELL, 0, Samples.SET, 5);
        Samples.ops(x, 1, Samples.TELL, 0);
        Due.due("drop", x.drop(0), 2);
        Due.due("flat", x.flat(0, 1, 9), 1);
        Due.due("the last one went", x.told(1, 1), 4);
        Due.due("drop", x.drop(0), 1);
        Due.due("drop", x.drop(0), 0);
        Due.due("drop", x.drop(0), Samples.NONE);
        Due.due("the other one stays", x.drop(1), 0);
        Due.due("drop(2)", x.drop(2), Samples.BAD);
        Due.due("drop(-1)", x.drop(-1), Samples.BAD);
        for (int wild : Samples.WILD) Due.due("wild drop", x.drop(wild), Samples.BAD);
        Due.due("link()", x.link(), 1);
        Due.due("drop of nothing", x.drop(0), Samples.NONE);
        Due.due("the image stays", x.count(3), 2);
    }

    private static void promise6Limit() {
        Counted x = new Counted();
        int[] first = {4, 100, 200, 20, 32};
        int[] least = {1, 8, 8, 1, 0};
        int[] most = {8, 250, 250, 60, 64};
        for (int what = 0; what < 5; what++) {
            Due.due("too small " + what, x.limit(what, least[what] - 1), Samples.BAD);
            Due.due("too great " + what, x.limit(what, most[what] + 1), Samples.BAD);
            for (int wild : Samples.WILD) Due.due("wild limit", x.limit(what, wild), Samples.BAD);
            Due.due("least " + what, x.limit(what, least[what]), first[what]);
            Due.due("most " + what, x.limit(what, most[what]), least[what]);
            Due.due("the same " + what, x.limit(what, most[what]), most[what]);
        }
        Due.due("limit(5, 8)", x.limit(5, 8), Samples.BAD);
        Due.due("limit(-1, 8)", x.limit(-1, 8), Samples.BAD);
        for (int wild : Samples.WILD) Due.due("wild what", x.limit(wild, 8), Samples.BAD);
    }

    private static void changesTakeTheImage() {
        Counted x = Samples.chain();
        for (int change = 0; change < 5; change++) {
            Due.due("link()", x.link(), 1);
            Due.due("there is an image", x.count(4), 3);
            if (change == 0) x.module(0);
            if (change == 1) x.routine(3, 0);
            if (change == 2) x.op(5, Samples.TELL, 0);
            if (change == 3) x.drop(5);
            if (change == 4) x.limit(Samples.SIZE, 16);
            String name = "behind change " + change;
            Due.due(name + ": count(4)", x.count(4), Samples.STATE);
            Due.due(name + ": place(0, 0)", x.place(0, 0), Samples.STATE);
            Due.due(name + ": image(0, 0)", x.image(0, 0), Samples.STATE);
            Due.due(name + ": run(0, 0, 1)", x.run(0, 0, 1), Samples.STATE);
            Due.due(name + ": fault(0)", x.fault(0), 0);
        }
    }

    private static void refusalsLeaveTheImage() {
        Counted x = Samples.chain();
        while (x.op(4, Samples.BACK, 0) > 0) x.count(0);
        while (x.module(0) >= 0) x.count(0);
        while (x.routine(3, 0) >= 0) x.count(0);
        x.limit(Samples.SIZE, 60);
        Due.due("link()", x.link(), 1);
        int bytes = x.count(3);
        Due.due("module", x.module(0), Samples.FULL);
        Due.due("module", x.module(3), Samples.BAD);
        Due.due("routine", x.routine(0, 0), Samples.FULL);
        Due.due("routine", x.routine(0, 10), Samples.BAD);
        Due.due("op", x.op(4, Samples.BACK, 0), Samples.FULL);
        Due.due("op", x.op(0, 9, 0), Samples.BAD);
        Due.due("drop", x.drop(30), Samples.BAD);
        Due.due("limit", x.limit(0, 9), Samples.BAD);
        Due.due("limit", x.limit(5, 9), Samples.BAD);
        Due.due("count(3)", x.count(3), bytes);
        Due.due("run", x.run(4, 7, 9), 1);
    }
}
