/** What the tests share: each answer is told when it is not the one that is due. */
final class Check {
    interface Call {
        long answer();
    }

    interface Deed {
        void happen();
    }

    interface DeedOn {
        void happenOn(AlloyPlans x);
    }

    static final Class<? extends RuntimeException> INDEX = IndexOutOfBoundsException.class;
    static final Class<? extends RuntimeException> TURN = IllegalStateException.class;
    static final Class<? extends RuntimeException> RANGE = IllegalArgumentException.class;
    static final Class<? extends RuntimeException> MEANING = UnsupportedOperationException.class;

    /** Numbers that no argument of the class may be; some wrap around to small ones when doubled or multiplied. */
    static final int[] FAR_OUT = {Integer.MIN_VALUE, Integer.MIN_VALUE + 1, -(1 << 30), -65_536, -2, -1, 1 << 30,
        (1 << 30) + 1, Integer.MAX_VALUE - 1, Integer.MAX_VALUE};

    private static int checked = 0;
    private static int wrong = 0;

    private Check() {
    }

    /** One test, of one sentence of the document; the words are the document's own. */
    static void sentence(String words, Deed test) {
        int checkedBefore = checked;
        int wrongBefore = wrong;
        String outcome = outcome(test);
        same(words, "done, with checks", checked > checkedBefore ? outcome + ", with checks" : outcome);
        System.out.println((wrong == wrongBefore ? "ok      " : "FAILED  ") + words);
    }

    static void gives(String told, long want, Call call) {
        same(told, Long.toString(want), outcome(call));
    }

    /** The exception's class must be the very one, as the machine's own are classes below it. */
    static void refuses(String told, Class<? extends RuntimeException> want, Deed deed) {
        same(told, want.getName(), outcome(deed));
    }

    /** A refused call leaves all as it was: what can be asked, and what is hidden and shows in the next plan. */
    static void refusedLeavesAll(String told, Class<? extends RuntimeException> want, DeedOn deed) {
        AlloyPlans x = withPlan();
        String before = seen(x, 1);
        refuses(told, want, () -> deed.happenOn(x));
        same(told + ", behind it", before, seen(x, 1));
        gives(told + ", a further run", 0, () -> x.run(12));
        same(told + ", behind a further run", before, seen(x, 1));
        gives(told + ", no more heat is needed and no less does", 1, () -> x.run(11));
    }

    static void same(String told, String want, String got) {
        checked++;
        if (!want.equals(got)) {
            wrong++;
            System.out.println(told + ": answered " + got + ", due is " + want);
        }
    }

    static String outcome(Call call) {
        try {
            return Long.toString(call.answer());
        } catch (RuntimeException e) {
            return e.getClass().getName();
        }
    }

    static String outcome(Deed deed) {
        try {
            deed.happen();
            return "done";
        } catch (RuntimeException e) {
            return e.getClass().getName();
        }
    }

    /** All that can be asked of an object with so many kinds without a change of it. */
    static String seen(AlloyPlans x, int kinds) {
        StringBuilder all = new StringBuilder();
        for (int what = 0; what < 10; what++) {
            all.append(x.heatAt(what)).append(' ');
        }
        for (int i = 0; i < kinds; i++) {
            int kind = i;
            all.append(outcome(() -> x.steps(kind))).append(' ');
        }
        for (int i = 0; i < 4; i++) {
            int what = i;
            all.append(outcome(() -> x.planned(what))).append(' ');
        }
        for (int i = 0; i < 16; i++) {
            int place = i;
            all.append(outcome(() -> x.after(place / 4, place / 2 % 2, place % 2))).append(' ');
        }
        return all.toString();
    }

    static boolean hasPlan(AlloyPlans x) {
        return !outcome(() -> x.planned(0)).equals(TURN.getName());
    }

    static void planStands(String told, AlloyPlans x) {
        same(told + ", the plan", "stands", hasPlan(x) ? "stands" : "is forgotten");
    }

    static void planIsForgotten(String told, AlloyPlans x) {
        same(told + ", the plan", "is forgotten", hasPlan(x) ? "stands" : "is forgotten");
    }

    /** A heat of 100 kilos with one kind of 2 kilos for 10 cents; its plan is two steps, and it stands. */
    static AlloyPlans withPlan() {
        AlloyPlans x = new AlloyPlans();
        x.heat(100);
        x.present(0, 100, 200);
        x.aim(0, 1000, 3000);
        x.kind(10, 2, 5);
        x.holds(0, 0, 50000, 60000);
        x.yields(0, 500, 3);
        gives("withPlan run(1000)", 0, () -> x.run(1000));
        return x;
    }

    static void end() {
        System.out.println("        " + checked + " answers checked, " + wrong + " wrong");
        if (wrong != 0 || checked == 0) {
            System.exit(1);
        }
    }
}
