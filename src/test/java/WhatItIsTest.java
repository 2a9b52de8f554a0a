/** The section 'What it is'. */
public final class WhatItIsTest {
    private static final String LIMIT = "An object is used for at most 512 calls after it has been made";

    public static void main(String[] args) {
        Check.sentence(LIMIT + ": 256 addings", WhatItIsTest::answersTheLastOfManyAddings);
        Check.sentence(LIMIT + ": great searches", WhatItIsTest::answersTheLastOfManySearches);
        Check.sentence(LIMIT + ": refused calls", WhatItIsTest::answersBehindManyRefusals);
        Check.end();
    }

    private static void answersTheLastOfManyAddings() {
        AlloyPlans x = new AlloyPlans();
        for (int addings = 0; addings < 255; addings++) {
            x.run(0);
            x.add();
        }
        Check.gives("call 511", 0, () -> x.run(0));
        Check.gives("call 512", 255, x::add);
    }

    private static void answersTheLastOfManySearches() {
        AlloyPlans x = new AlloyPlans();
        for (int kind = 0; kind < 4; kind++) {
            x.kind(100_000, 1_000, 12);
            x.yields(kind, 1, 1_000);
        }
        x.aim(3, 1, 100_000);
        for (int call = 10; call <= 511; call++) {
            x.run(100_000_000);
        }
        Check.gives("call 512", 4, () -> x.run(100_000_000));
    }

    private static void answersBehindManyRefusals() {
        AlloyPlans x = new AlloyPlans();
        for (int call = 1; call <= 511; call++) {
            Check.refuses("call " + call, Check.RANGE, () -> x.heat(0));
        }
        Check.gives("call 512", 1, () -> x.heatAt(0));
    }
}
