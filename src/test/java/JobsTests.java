/** Promises 19 to 22: jobs and the order that is least late. */
final class JobsTests extends Answers {
    private JobsTests() {
    }

    /** Profiles 0, 1, 2 of alloys 0, 1, 2 and jobs, each a profile, its ticks and when it is due. */
    private static BilletBars planning(int... jobs) {
        BilletBars x = new BilletBars();
        for (int alloy = 0; alloy <= 2; alloy++) {
            x.profile(alloy, 5, 0, 100);
        }
        for (int k = 0; k + 2 < jobs.length; k += 3) {
            x.job(jobs[k], jobs[k + 1], jobs[k + 2]);
        }
        return x;
    }

    private static void duePlan(BilletBars x, int... want) {
        dueRow("planned(i)", x::planned, want);
        due("planned(" + want.length + ")", x.planned(want.length), BAD);
    }

    // ---- promise 19: job

    static void promise19_job_profileMustBeThere() {
        dueBad("job(v, 1, 0)", v -> new BilletBars().job(v, 1, 0), -1, 0);
        dueRow("job(v, 1, 0)", v -> planning().job(v, 1, 0), 0, 0, 0, BAD);
        dueBad("job(v, 1, 0)", v -> planning().job(v, 1, 0), -1, 3);
    }

    static void promise19_job_ticksAre1To50() {
        dueRange("job(0, v, 0)", v -> planning().job(0, v, 0), 1, 50, 0);
    }

    static void promise19_job_dueIs0To1000() {
        dueRange("job(0, 1, v)", v -> planning().job(0, 1, v), 0, 1000, 0);
    }

    static void promise19_job_leastAndGreatestTicksAreKept() {
        due("late() of 1 tick", planning(0, 1, 0).late(), 1);
        due("late() of 50 ticks", planning(0, 50, 0).late(), 50);
    }

    static void promise19_job_leastAndGreatestDueAreKept() {
        due("late(), due 0", planning(0, 50, 0).late(), 50);
        due("late(), due 1000", planning(0, 50, 1000).late(), 0);
        // only the job that is due is put ahead
        duePlan(planning(0, 5, 1000, 0, 5, 0), 1, 0);
    }

    static void promise19_job_numbersAre0To6AndThenItIsFull() {
        BilletBars x = planning();
        dueRow("job(0, 1, 0)", n -> x.job(0, 1, 0), 0, 1, 2, 3, 4, 5, 6, FULL, FULL);
        due("count(4)", x.count(4), 7);
        due("planned(6)", x.planned(6), 6);
        due("planned(7)", x.planned(7), BAD);
    }

    static void promise19_job_badGoesAheadOfFull() {
        due("job(8, 1, 0)", Made.crowded().job(8, 1, 0), BAD);
        due("job(0, 0, 0)", Made.crowded().job(0, 0, 0), BAD);
        due("job(0, 51, 0)", Made.crowded().job(0, 51, 0), BAD);
        due("job(0, 1, -1)", Made.crowded().job(0, 1, -1), BAD);
        due("job(0, 1, 1001)", Made.crowded().job(0, 1, 1001), BAD);
    }

    static void promise19_job_badChangesNothing() {
        dueUnchanged("job(3, 1, 0)", Made::busy, x -> x.job(3, 1, 0), BAD);
        dueUnchanged("job(0, 0, 0)", Made::busy, x -> x.job(0, 0, 0), BAD);
        dueUnchanged("job(0, 51, 0)", Made::busy, x -> x.job(0, 51, 0), BAD);
        dueUnchanged("job(0, 1, 1001)", Made::busy, x -> x.job(0, 1, 1001), BAD);
    }

    static void promise19_job_fullChangesNothing() {
        dueUnchanged("job(0, 1, 0)", Made::crowded, x -> x.job(0, 1, 0), FULL);
    }

    // ---- promise 20: change

    static void promise20_change_ticksAre0To20() {
        dueRange("change(v)", v -> new BilletBars().change(v), 0, 20, 2);
    }

    static void promise20_change_tellsWhatItWas() {
        BilletBars x = new BilletBars();
        due("change(20)", x.change(20), 2);
        due("change(0)", x.change(0), 20);
        due("change(1)", x.change(1), 0);
        due("change(1)", x.change(1), 1);
    }

    static void promise20_change_passesBetweenUnlikeAlloys() {
        BilletBars x = planning(0, 5, 0, 1, 5, 0);
        due("late() at first", x.late(), 5 + 12);
        x.change(20);
        due("late() with 20", x.late(), 5 + 30);
        x.change(0);
        due("late() with 0", x.late(), 5 + 10);
    }

    static void promise20_change_doesNotPassBetweenLikeAlloys() {
        BilletBars x = planning(0, 5, 0);
        x.profile(0, 80, 3, 9999);
        x.job(3, 5, 0);
        x.change(20);
        due("late()", x.late(), 5 + 10);
    }

    static void promise20_change_doesNotPassAheadOfTheFirst() {
        BilletBars x = planning(2, 5, 5);
        x.change(20);
        due("late()", x.late(), 0);
    }

    static void promise20_change_badChangesNothing() {
        dueUnchanged("change(-1)", Made::busy, x -> x.change(-1), BAD);
        dueUnchanged("change(21)", Made::busy, x -> x.change(21), BAD);
    }

    // ---- promise 21: late

    static void promise21_late_withoutJobsIs0() {
        due("late()", new BilletBars().late(), 0);
        due("late()", planning().late(), 0);
    }

    static void promise21_late_endAtDueIsNotLate() {
        due("due one tick after its end", planning(0, 50, 51).late(), 0);
        due("due at its end", planning(0, 50, 50).late(), 0);
        due("due one tick ahead of its end", planning(0, 50, 49).late(), 1);
    }

    static void promise21_late_earlyJobsMakeUpForNothing() {
        due("late()", planning(0, 1, 1000, 0, 5, 0).late(), 5);
    }

    static void promise21_late_isTheLeastSum() {
        // 5 and 9, or 4 and 9
        due("late()", planning(0, 5, 0, 0, 4, 0).late(), 4 + 9);
        // the short one of the other alloy first: 1; then 3 + 5
        due("late()", planning(0, 5, 5, 1, 1, 0).late(), 1 + 3);
    }

    static void promise21_late_ofSevenLongJobs() {
        BilletBars x = planning(0, 50, 0, 1, 50, 0, 2, 50, 0, 0, 50, 0, 1, 50, 0, 2, 50, 0, 0, 50, 0);
        x.change(20);
        // 50 * (1 + .. + 7); a change ahead of the last four, and one ahead of the last two
        due("late()", x.late(), 1400 + 80 + 40);
        duePlan(x, 0, 3, 6, 1, 4, 2, 5);
    }

    static void promise21_late_beginsAtTick0WhateverTickItIs() {
        BilletBars x = planning(0, 5, 5);
        x.pass(100);
        due("late()", x.late(), 0);
    }

    static void promise21_late_followsJobsAndChange() {
        BilletBars x = planning(0, 5, 5);
        due("late()", x.late(), 0);
        x.job(1, 5, 5);
        due("late()", x.late(), 7);
        x.change(5);
        due("late()", x.late(), 10);
        due("change(21)", x.change(21), BAD);
        due("late()", x.late(), 10);
    }

    static void promise21_late_changesNothing() {
        dueUnchanged("late()", Made::busy, BilletBars::late, Made.busy().late());
        dueUnchanged("late()", Made::crowded, BilletBars::late, Made.crowded().late());
    }

    // ---- promise 22: planned

    static void promise22_planned_placeMustBeThere() {
        dueBad("planned(i)", i -> new BilletBars().planned(i), -1, 0);
        dueBad("planned(i)", i -> planning(0, 1, 1).planned(i), -1, 1);
        dueRow("planned(i)", i -> planning(0, 1, 1, 0, 1, 2).planned(i), 0, 1, BAD);
        dueBad("planned(i)", i -> Made.crowded().planned(i), -1, 7);
    }

    static void promise22_planned_oneJob() {
        duePlan(planning(2, 50, 0), 0);
    }

    static void promise22_planned_hasTheLeastSumOfLate() {
        duePlan(planning(0, 5, 1000, 0, 5, 10, 0, 5, 5), 2, 1, 0);
        duePlan(planning(0, 5, 0, 0, 4, 0), 1, 0);
    }

    static void promise22_planned_leastLateGoesAheadOfTheLeastEnd() {
        // 0, 1, 2 ends at 7, none late; 0, 2, 1 ends at 5, but 1 is late by 1
        duePlan(planning(0, 1, 1, 1, 1, 4, 0, 1, 1000), 0, 1, 2);
        duePlan(planning(0, 1, 1, 1, 1, 5, 0, 1, 1000), 0, 2, 1);
        // the same with the orders the other way round: the one that ends first has the lesser job first
        duePlan(planning(0, 1, 1, 0, 1, 1000, 1, 1, 4), 0, 2, 1);
        duePlan(planning(0, 1, 1, 0, 1, 1000, 1, 1, 5), 0, 1, 2);
    }

    static void promise22_planned_ofLikeLateHasTheLeastEnd() {
        duePlan(planning(0, 5, 1000, 1, 5, 1000, 0, 5, 1000), 0, 2, 1);
        duePlan(planning(0, 1, 1000, 1, 1, 1000, 2, 1, 1000, 1, 1, 1000, 0, 1, 1000), 0, 4, 1, 3, 2);
    }

    static void promise22_planned_ofLikeEndHasTheLeastJobFirst() {
        BilletBars x = planning(0, 5, 1000, 1, 5, 1000, 0, 5, 1000);
        x.change(0);
        duePlan(x, 0, 1, 2);
        duePlan(planning(0, 1, 0, 0, 1, 0, 0, 1, 0, 0, 1, 0, 0, 1, 0, 0, 1, 0, 0, 1, 0), 0, 1, 2, 3, 4, 5, 6);
        // 0 and 2 are of one alloy: 1, 0, 2 has the same end as 0, 2, 1
        duePlan(planning(1, 5, 1000, 0, 5, 1000, 1, 5, 1000), 0, 2, 1);
    }

    static void promise22_planned_followsJobsAndChange() {
        BilletBars x = planning(0, 5, 1000, 1, 5, 1000);
        duePlan(x, 0, 1);
        x.job(0, 5, 1000);
        duePlan(x, 0, 2, 1);
        x.change(0);
        duePlan(x, 0, 1, 2);
        x.job(0, 1, 1);
        duePlan(x, 3, 0, 1, 2);
    }

    static void promise22_planned_changesNothing() {
        dueUnchanged("planned(0)", Made::busy, x -> x.planned(0), Made.busy().planned(0));
        dueUnchanged("planned(3)", Made::busy, x -> x.planned(3), BAD);
        dueUnchanged("planned(-1)", Made::busy, x -> x.planned(-1), BAD);
    }
}
