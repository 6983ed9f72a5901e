import java.util.Arrays;

/** The sentences of the terms on referees, reports, decisions, appeals and transfers that name a boundary. */
public final class TermsJudgingTest {
    public static void main(String[] args) {
        soManyPeople();
        notAway();
        noConflict();
        notAskedSince();
        wordsFirst();
        thenTheFewestInvitations();
        nobodyWithoutAWord();
        lapses();
        reportsOnce();
        reportsInStateE();
        onceMoreForALaterEditor();
        theLaterReport();
        scoresAndPoints();
        evenedByAllScores();
        reportsOfThisEditor();
        fewerThanItNeeds();
        justTwoApart();
        threeApart();
        anAlarm();
        alarmOfAReportThatCounts();
        committeeFirst();
        lessThanForRejecting();
        lessThanForAccepting();
        meanRoundedDown();
        anyPointNotMet();
        anEqualPaper();
        sixVersions();
        neitherIsACauseAnyMore();
        whenAPointIsMet();
        appealedOnce();
        whatAnAppealTakes();
        whatGoesAlong();
        eachOtherWayOut();
        Check.end();
    }

    // ---- referees

    /** "A wave of invitations asks so many people" */
    private static void soManyPeople() {
        for (int many = 1; many <= 5; many++) {
            Land land = new Land(9);
            land.assigned(0);
            Check.due("so many", land.x.invite(0, many), many);
            for (int i = 1; i <= 8; i++) {
                Check.due("person " + i, land.x.invitation(0, i), i <= many ? 'o' : '-');
            }
            Check.due("letters", land.file(0), "bySEiiiii".substring(0, 4 + many));
        }
        Land land = new Land(9);
        land.assigned(0);
        Check.due("five of eight", land.x.invite(0, 5), 5);
        Check.due("two of three", land.x.invite(0, 2), 2);
        Check.due("one of one", land.x.invite(0, 5), 1);
        Check.due("none of none", land.x.invite(0, 5), 0);
    }

    /** "those who are not away" */
    private static void notAway() {
        Land land = new Land(9);
        land.assigned(0);
        land.x.sendAway(1, 2);
        land.x.sendAway(2, 1);
        land.x.goOn(1);
        land.x.invite(0, 1);
        Check.due("away to this day", land.x.invitation(0, 1), '-');
        Check.due("away to the day ahead", land.x.invitation(0, 2), 'o');
    }

    /** "have no conflict with anybody who is or was an author, nor with the editor" */
    private static void noConflict() {
        Land land = new Land(9);
        Refereehall x = land.x;
        land.withOneGone(0, 1);
        x.assign(0);
        x.tellConflict(2, 0);
        x.tellConflict(3, 1);
        x.tellConflict(4, 9);
        x.tellMoney(5, 1, 1);
        x.invite(0, 5);
        for (int i = 0; i < 10; i++) {
            Check.due("person " + i, x.invitation(0, i), i >= 6 && i <= 8 ? 'o' : '-');
        }
    }

    /** "and were not asked for this paper since it got this editor" */
    private static void notAskedSince() {
        Land land = new Land(9, 8);
        Refereehall x = land.x;
        land.assigned(0);
        x.invite(0, 5);
        x.answer(0, 1, false);
        x.answer(0, 2, true);
        x.answer(0, 3, true);
        x.report(0, 3, 60, 0, false);
        x.goOn(15);
        Check.due("lapsed", x.invitation(0, 4), 'z');
        Check.due("others than refused, taken, reported, lapsed", x.invite(0, 5), 3);
        Check.due("nobody else", x.invite(0, 5), 0);
        x.answer(0, 6, true);
        x.report(0, 6, 60, 0, false);
        x.setRules(0, 2, 100, 100, 's');
        x.decide(0);
        x.appeal(0);
        Check.due("another editor", x.assign(0), 9);
        Check.due("asked by the elder one", x.invitation(0, 3), '-');
        Check.due("asked anew", x.invite(0, 3), 3);
        Check.due("the lowest, who refused", x.invitation(0, 1), 'o');
        Check.due("who took one", x.invitation(0, 2), 'o');
        Check.due("who reported", x.invitation(0, 3), 'o');
    }

    /** "first those who have the most words in common with its last version" */
    private static void wordsFirst() {
        Land land = new Land(9);
        Refereehall x = land.x;
        int two = x.addPerson(5, 3);
        int three = x.addPerson(6, 7);
        int others = x.addPerson(7, 1048575 - 7);
        x.begin(0, 0, 7);
        x.sign(0, 0);
        x.assign(0);
        x.begin(0, 0, 4);
        x.sign(1, 0);
        x.assign(1);
        x.invite(1, 1);
        Check.due("the only one", x.invitation(1, three), 'o');
        x.invite(0, 1);
        Check.due("the most words, though asked elsewhere", x.invitation(0, three), 'o');
        x.invite(0, 1);
        Check.due("the next most", x.invitation(0, two), 'o');
        x.revise(0, 1048575 - 7);
        x.sign(0, 0);
        Check.due("by the words of the last version", x.invite(0, 5), 1);
        Check.due("all other words", x.invitation(0, others), 'o');
    }

    /** "then with the fewest invitations for all papers that are open, or taken without a report ... all as it was" */
    private static void thenTheFewestInvitations() {
        Land land = new Land(9, 8);
        Refereehall x = land.x;
        for (int i = 0; i < 4; i++) {
            land.assigned(0);
        }
        x.invite(0, 4);
        x.answer(0, 1, false);
        x.answer(0, 2, true);
        x.answer(0, 3, true);
        x.report(0, 3, 60, 0, false);
        x.invite(1, 2);
        Check.due("refused, so none", x.invitation(1, 1), 'o');
        Check.due("taken, so one", x.invitation(1, 2), '-');
        Check.due("reported, so none", x.invitation(1, 3), 'o');
        Check.due("open, so one", x.invitation(1, 4), '-');
        x.invite(2, 5);
        Check.due("none", x.invitation(2, 5), 'o');
        Check.due("none at all", x.invitation(2, 7), 'o');
        Check.due("one, the lowest", x.invitation(2, 1), 'o');
        Check.due("one, too, but behind", x.invitation(2, 2), '-');
        Check.due("one, too, and behind", x.invitation(2, 4), '-');
        x.goOn(15);
        x.invite(3, 4);
        Check.due("lapsed, so none", x.invitation(3, 1), 'o');
        Check.due("taken does not lapse", x.invitation(3, 2), '-');
        Check.due("none by now", x.invitation(3, 5), 'o');
    }

    /** "nobody without a word in common" */
    private static void nobodyWithoutAWord() {
        Land land = new Land(9);
        Refereehall x = land.x;
        x.begin(0, 0, 2);
        x.sign(0, 0);
        x.assign(0);
        Check.due("nobody has the word", x.invite(0, 5), 0);
        x.revise(0, 0);
        x.sign(0, 0);
        Check.due("a version without words", x.invite(0, 5), 0);
        x.revise(0, 3);
        x.sign(0, 0);
        Check.due("one word in common", x.invite(0, 5), 5);
    }

    /** "when the day is more than 14 after that on which it was sent" */
    private static void lapses() {
        for (int days = 13; days < 17; days++) {
            Land land = new Land(9);
            Refereehall x = land.x;
            land.assigned(0);
            x.goOn(99);
            x.invite(0, 3);
            x.answer(0, 1, true);
            x.answer(0, 2, false);
            Check.due("days: " + days, x.goOn(days), days > 14 ? 1 : 0);
            Check.due("how it stands, days: " + days, x.invitation(0, 3), days > 14 ? 'z' : 'o');
            Object due = days > 14 ? "throws.UnsupportedOperationException" : (Object) 2;
            Check.due("answered, days: " + days, Calls.make(x, "answer", 0, 3, true), due);
        }
    }

    /** "Who took one can report once by it" */
    private static void reportsOnce() {
        Land land = new Land(9);
        Refereehall x = land.x;
        land.taken(0, 1, 2);
        land.score(0, 60, 1);
        Check.unsupported("twice", () -> x.report(0, 1, 60, 0, false));
        x.revise(0, 1);
        x.sign(0, 0);
        Check.unsupported("twice, on another version", () -> x.report(0, 1, 60, 0, false));
        Check.due("another one on another version", x.report(0, 2, 60, 0, false), 2);
    }

    /** "as long as the paper has the state e" */
    private static void reportsInStateE() {
        for (char state : Stage.STATES.toCharArray()) {
            Object due = state == 'e' ? (Object) 3 : "throws.UnsupportedOperationException";
            Check.due("in state " + state, Calls.make(Stage.at(state), "report", 0, 4, 50, 0, true), due);
        }
    }

    /** "asked anew by a later editor, once more" */
    private static void onceMoreForALaterEditor() {
        Refereehall x = Stage.at('x');
        x.appeal(0);
        x.assign(0);
        Check.unsupported("not asked yet", () -> x.report(0, 1, 60, 0, false));
        x.invite(0, 5);
        x.answer(0, 1, true);
        Check.due("once more", x.report(0, 1, 60, 0, false), 1);
        Check.unsupported("and no more", () -> x.report(0, 1, 60, 0, false));
        x.answer(0, 4, true);
        Check.due("who took one of the elder editor", x.report(0, 4, 60, 0, false), 2);
    }

    /** "If two reports of one referee count, what is asked of one is of the later one." */
    private static void theLaterReport() {
        Refereehall x = Stage.at('k');
        x.seat(0);
        x.vote(0, 5, false);
        x.vote(0, 6, false);
        x.transfer(0, 1);
        x.assign(0);
        x.invite(0, 5);
        x.answer(0, 1, true);
        Check.due("of an elder and a later report", x.report(0, 1, 40, 2, true), 3);
        Check.due("60 and 40 are 50", x.evened(0, 1), 40);
        Check.due("the points of both", x.openPoints(0), 3);
        Check.due("the alarm is in the elder one", x.alarm(0, 1), true);
        Check.due("now in the later one, too", x.alarm(0, 1), false);
        Check.unsupported("the later one is on this version", () -> x.meet(0, 1, 0));
        x.revise(0, 1);
        Check.due("the point 1, which the elder one has not", x.meet(0, 1, 1), 2);
        Check.due("the point 0 of the later one", x.meet(0, 1, 0), 1);
        Check.noElement("the point 0 of the elder one is not meant", () -> x.meet(0, 1, 0));
    }

    // ---- reports

    /** "A report has a score, 0 to 100, points, 0 to 4" */
    private static void scoresAndPoints() {
        for (int points = 0; points <= 4; points++) {
            Land land = new Land(9);
            Refereehall x = land.x;
            land.taken(0, 1, 2);
            x.report(0, 1, points % 2 * 100, points, true);
            Check.due("so many points", x.openPoints(0), points);
            Check.due("the score", x.meanScore(), points % 2 * 100.0);
            x.revise(0, 1);
            for (int i = points - 1; i >= 0; i--) {
                Check.due("one less", x.meet(0, 1, i), i);
            }
            int most = points;
            Check.noElement("no more", () -> x.meet(0, 1, most));
            Check.noElement("all met", () -> x.meet(0, 1, 0));
        }
    }

    /** "less the mean, rounded down, of all scores that this referee has given in the land until now" */
    private static void evenedByAllScores() {
        Land land = new Land(9, 8);
        Refereehall x = land.x;
        for (int i = 0; i < 4; i++) {
            land.taken(0, 1, 2);
        }
        land.score(0, 100, 1);
        Check.due("this one included", x.evened(0, 1), 50);
        land.score(1, 0, 1);
        Check.due("later ones included: 50", x.evened(0, 1), 100);
        Check.due("the later one", x.evened(1, 1), 0);
        land.score(2, 99, 1);
        Check.due("66 and a third", x.evened(0, 1), 84);
        land.score(3, 0, 1);
        Check.due("49 and three quarters", x.evened(0, 1), 101);
        Check.due("another referee's scores are none of these", x.report(0, 2, 7, 0, true), 2);
        Check.due("49 still", x.evened(0, 1), 101);
        x.setRules(0, 2, 100, 100, 's');
        x.withdraw(1);
        Check.due("of withdrawn papers, too", x.evened(0, 1), 101);
    }

    // ---- decisions

    /** Paper 0 with reports of the referees 1, 2 .. on it, whose evened scores are these, 0 to 100. */
    private static Land evened(int... scores) {
        Land land = new Land(9);
        for (int paper = 0; paper < 2; paper++) {
            land.taken(0, 1, 2, 3, 4);
            for (int i = 0; i < scores.length; i++) {
                int more = scores[i] - 50;
                int elsewhere = more < 0 ? -2 * more : 100 - 2 * more;
                land.score(paper, paper == 1 ? elsewhere : more < 0 ? 0 : 100, i + 1);
            }
        }
        for (int i = 0; i < scores.length; i++) {
            Check.due("evened", land.x.evened(0, i + 1), scores[i]);
        }
        return land;
    }

    private static String decided(Land land) {
        return String.valueOf(Calls.make(land.x, "decide", 0));
    }

    private static final String UNDECIDED = "throws.UnsupportedOperationException";

    /** "The reports that count are those since the paper got this editor" */
    private static void reportsOfThisEditor() {
        Refereehall x = Stage.at('x');
        x.appeal(0);
        x.assign(0);
        Check.unsupported("two of the elder editor", () -> x.decide(0));
        x.invite(0, 5);
        x.answer(0, 1, true);
        x.answer(0, 2, true);
        Check.due("the first that counts", x.report(0, 1, 60, 0, true), 1);
        Check.unsupported("one alone", () -> x.decide(0));
        Check.due("the second", x.report(0, 2, 60, 0, true), 2);
        Check.due("two", x.decide(0), 'a');
    }

    /** "with fewer than it needs ... it cannot be decided" */
    private static void fewerThanItNeeds() {
        int[] all = {50, 50, 50, 50};
        for (int needs = 2; needs <= 4; needs++) {
            for (int many = 0; many <= 4; many++) {
                Land land = evened(Arrays.copyOf(all, many));
                land.x.setRules(0, needs, 50, 35, 's');
                Check.due(many + " of " + needs, decided(land), many < needs ? UNDECIDED : "a");
            }
        }
    }

    /** "or just 2 whose evened scores differ by more than 40" */
    private static void justTwoApart() {
        Check.due("39 apart", decided(evened(70, 31)), "a");
        Check.due("40 apart", decided(evened(70, 30)), "a");
        Check.due("40 apart, the other way", decided(evened(30, 70)), "a");
        Check.due("41 apart", decided(evened(71, 30)), UNDECIDED);
        Check.due("41 apart, the other way", decided(evened(30, 71)), UNDECIDED);
        Check.due("61 apart", decided(evened(81, 20)), UNDECIDED);
        Check.due("three, 41 apart", decided(evened(71, 30, 50)), "a");
    }

    /** "with 3 or more whose evened scores differ by more than 60 ... a committee decides" */
    private static void threeApart() {
        Check.due("60 apart", decided(evened(80, 20, 50)), "a");
        Check.due("61 apart", decided(evened(81, 20, 50)), "k");
        Check.due("61 apart, in another order", decided(evened(50, 20, 81)), "k");
        Check.due("four, 60 apart", decided(evened(50, 80, 50, 20)), "a");
        Check.due("four, 61 apart", decided(evened(50, 80, 50, 19)), "k");
        Check.due("four, the first and the last", decided(evened(81, 50, 50, 20)), "k");
    }

    /** "or an alarm, a committee decides" */
    private static void anAlarm() {
        Land land = evened(50, 50);
        land.x.alarm(0, 2);
        Check.due("with two reports", decided(land), "k");
        Land apart = evened(71, 30);
        apart.x.alarm(0, 2);
        Check.due("with two that are too far apart", decided(apart), UNDECIDED);
        Land few = evened(50, 50);
        few.x.alarm(0, 1);
        few.x.setRules(0, 3, 50, 35, 's');
        Check.due("with fewer than it needs", decided(few), UNDECIDED);
    }

    /** "An alarm is a sign in a report that counts" */
    private static void alarmOfAReportThatCounts() {
        Refereehall x = Stage.at('k');
        x.seat(0);
        x.vote(0, 5, false);
        x.vote(0, 6, false);
        x.appeal(0);
        Check.unsupported("of one that counts no more", () -> x.alarm(0, 1));
        x.assign(0);
        x.invite(0, 5);
        x.answer(0, 1, true);
        x.answer(0, 2, true);
        x.report(0, 1, 60, 0, true);
        x.report(0, 2, 60, 0, true);
        Check.due("the elder alarm is no cause", x.decide(0), 'a');

        Refereehall y = Stage.at('k');
        y.seat(0);
        y.vote(0, 5, false);
        y.vote(0, 6, false);
        y.transfer(0, 1);
        y.assign(0);
        Check.due("one that went along is a cause", y.decide(0), 'k');
    }

    /** "by the first that holds": a committee ahead of a rejection, a rejection ahead of another version */
    private static void committeeFirst() {
        Land land = evened(10, 10);
        land.x.alarm(0, 1);
        Check.due("a low mean and an alarm", decided(land), "k");
        Check.due("a low mean and three far apart", decided(evened(0, 0, 61)), "k");
        Land open = new Land(9);
        for (int i = 0; i < 2; i++) {
            open.taken(0, 1, 2);
        }
        open.score(1, 100, 1, 2);
        open.x.report(0, 1, 60, 4, true);
        open.x.report(0, 2, 60, 0, true);
        Check.due("a mean of 30 and open points", decided(open), "x");
    }

    /** "being less than that for rejecting, 'x'" */
    private static void lessThanForRejecting() {
        for (int mean = 33; mean < 38; mean++) {
            Check.due("at first, a mean of " + mean, decided(evened(mean, mean)), mean < 35 ? "x" : "q");
            Land land = evened(mean, mean);
            land.x.setRules(0, 2, 36, 36, 's');
            Check.due("one bound, a mean of " + mean, decided(land), mean < 36 ? "x" : "a");
        }
        Land none = evened(0, 0);
        none.x.setRules(0, 2, 0, 0, 's');
        Check.due("0 is not less than 0", decided(none), "a");
        Land all = evened(100, 100);
        all.x.setRules(0, 2, 100, 100, 's');
        Check.due("100 is not less than 100", decided(all), "a");
        Land less = evened(99, 99);
        less.x.setRules(0, 2, 100, 100, 's');
        Check.due("99 is less than 100", decided(less), "x");
    }

    /** "the mean less than that for accepting ... 'q' ... otherwise 'a'" */
    private static void lessThanForAccepting() {
        for (int mean = 48; mean < 53; mean++) {
            Check.due("at first, a mean of " + mean, decided(evened(mean, mean)), mean < 50 ? "q" : "a");
            Land land = evened(mean, mean);
            land.x.setRules(0, 2, 51, 0, 's');
            Check.due("from 51 on, a mean of " + mean, decided(land), mean < 51 ? "q" : "a");
        }
    }

    /** "the mean of evened scores, rounded down" */
    private static void meanRoundedDown() {
        Check.due("49 and a half", decided(evened(50, 49)), "q");
        Check.due("49 and two thirds", decided(evened(50, 50, 49)), "q");
        Check.due("50 and two thirds", decided(evened(51, 51, 50)), "a");
        Check.due("34 and three quarters", decided(evened(35, 35, 35, 34)), "x");
        Check.due("35 and a quarter", decided(evened(35, 35, 35, 36)), "q");
    }

    /** "any point not met ... 'q'" */
    private static void anyPointNotMet() {
        Refereehall x = Stage.at('e');
        Check.due("one of one", x.openPoints(0), 1);
        Check.due("one is open", x.decide(0), 'q');
        Refereehall y = Stage.at('e');
        Check.due("met", y.meet(0, 1, 0), 0);
        Check.due("none is open", y.decide(0), 'a');
    }

    /** "or an equal paper, 'q'" */
    private static void anEqualPaper() {
        for (int words : new int[] {31, 15, 7}) {
            Land land = new Land(9);
            Refereehall x = land.x;
            land.signed(3, 5, words);
            x.showAhead(0);
            x.begin(0, 0, 31);
            x.sign(1, 0);
            x.assign(1);
            land.take(1, 1, 2);
            land.score(1, 60, 1, 2);
            Check.due("so many words of 5: " + Integer.bitCount(words), x.decide(1), words == 7 ? 'a' : 'q');
        }
    }

    /** "but 'x' if there are 6 versions" */
    private static void sixVersions() {
        for (int versions = 5; versions <= 6; versions++) {
            Refereehall x = Stage.at('e');
            for (int i = 2; i < versions; i++) {
                x.revise(0, 1);
                x.sign(0, 0);
                x.sign(0, 3);
            }
            Check.due("versions: " + versions, x.decide(0), versions == 6 ? 'x' : 'q');
            Refereehall y = Stage.at('e');
            for (int i = 2; i < versions; i++) {
                y.revise(0, 1);
                y.sign(0, 0);
                y.sign(0, 3);
            }
            y.meet(0, 1, 0);
            Check.due("without a cause, versions: " + versions, y.decide(0), 'a');
        }
    }

    /** "Once a committee has confirmed a paper in the state k, neither is a cause for this paper any more." */
    private static void neitherIsACauseAnyMore() {
        Land land = evened(81, 20, 50);
        Refereehall x = land.x;
        for (int i = 5; i < 8; i++) {
            x.addEditor(i, 4);
        }
        Check.due("far apart", x.decide(0), 'k');
        x.seat(0);
        x.vote(0, 5, true);
        Check.due("confirmed", x.vote(0, 6, true), 'c');
        x.alarm(0, 1);
        Check.due("neither far apart nor an alarm", x.decide(0), 'a');

        Refereehall y = Stage.at('k');
        y.seat(0);
        y.vote(0, 5, true);
        y.vote(0, 6, true);
        y.setRules(0, 2, 100, 100, 's');
        y.decide(0);
        y.appeal(0);
        y.assign(0);
        y.invite(0, 5);
        y.answer(0, 1, true);
        y.answer(0, 2, true);
        y.report(0, 1, 60, 0, true);
        y.report(0, 2, 60, 0, true);
        y.alarm(0, 2);
        y.setRules(0, 2, 50, 35, 's');
        Check.due("nor with a later editor", y.decide(0), 'a');

        Land apart = evened(71, 30);
        Refereehall z = apart.x;
        for (int i = 5; i < 8; i++) {
            z.addEditor(i, 4);
        }
        z.report(0, 3, 100, 0, true);
        z.alarm(0, 3);
        Check.due("three with an alarm", z.decide(0), 'k');
        z.seat(0);
        z.vote(0, 5, false);
        z.vote(0, 6, true);
        Check.due("confirmed by two of three", z.vote(0, 7, true), 'c');
        Check.due("41 apart of three", z.decide(0), 'a');
    }

    /** "in the state e or d, if the paper has a later version than that on which was reported" */
    private static void whenAPointIsMet() {
        for (char state : Stage.STATES.toCharArray()) {
            Object due = state == 'e' || state == 'd' ? (Object) 0 : UNDECIDED;
            Check.due("in state " + state, Calls.make(Stage.at(state), "meet", 0, 1, 0), due);
        }
        Refereehall x = Stage.at('e');
        x.report(0, 4, 60, 4, false);
        Check.unsupported("on the last version", () -> x.meet(0, 4, 3));
        x.revise(0, 1);
        Check.due("as soon as there is a later one", x.meet(0, 4, 3), 4);
        Check.unsupported("not by another one", () -> x.meet(0, 5, 0));
    }

    // ---- appeals and transfers

    /** "A rejected paper can be appealed once" */
    private static void appealedOnce() {
        Refereehall x = Stage.at('x');
        Check.due("once", x.appeal(0), 2);
        x.assign(0);
        x.invite(0, 5);
        x.answer(0, 1, true);
        x.answer(0, 2, true);
        x.report(0, 1, 60, 0, true);
        x.report(0, 2, 60, 0, true);
        x.setRules(0, 2, 100, 100, 's');
        Check.due("rejected again", x.decide(0), 'x');
        Check.unsupported("twice", () -> x.appeal(0));
        Check.due("transferred all the same", x.transfer(0, 7), 2);
    }

    /** "its state is 's', without an editor and invitations, and no reports count" */
    private static void whatAnAppealTakes() {
        Refereehall x = Stage.at('x');
        Check.due("an editor until then", x.editorOf(0), 9);
        Check.due("an invitation until then", x.invitation(0, 5), 'o');
        Check.due("points until then", x.openPoints(0), 1);
        x.appeal(0);
        Check.due("the state", x.state(0), 's');
        Check.noElement("no editor", () -> x.editorOf(0));
        for (int i = 0; i < 10; i++) {
            Check.due("no invitation", x.invitation(0, i), '-');
        }
        Check.noElement("no report", () -> x.evened(0, 1));
        Check.due("no points", x.openPoints(0), 0);
        Check.unsupported("nothing to answer", () -> x.answer(0, 5, true));
    }

    /** "those reports that counted and may go along count on, with their points, also such as went along before" */
    private static void whatGoesAlong() {
        Refereehall x = Stage.at('e');
        x.report(0, 4, 60, 3, false);
        x.setRules(0, 2, 100, 100, 's');
        x.decide(0);
        Check.due("two of three may", x.transfer(0, 1), 2);
        Check.due("their points", x.openPoints(0), 1);
        Check.noElement("the third does not count", () -> x.evened(0, 4));
        Check.due("the state", x.state(0), 's');
        Check.noElement("without an editor", () -> x.editorOf(0));
        Check.due("without invitations", x.invitation(0, 5), '-');
        x.setRules(1, 2, 100, 100, 's');
        x.assign(0);
        x.decide(0);
        Check.due("also such as went along before", x.transfer(0, 2), 2);
        x.addEditor(7, 2);
        x.assign(0);
        x.setRules(2, 2, 100, 100, 's');
        x.decide(0);
        Check.due("none behind an appeal", x.appeal(0), 2);
        x.addEditor(6, 2);
        x.assign(0);
        x.invite(0, 5);
        x.answer(0, 4, true);
        x.answer(0, 5, true);
        x.report(0, 4, 60, 0, false);
        x.report(0, 5, 60, 2, false);
        Check.due("rejected once more", x.decide(0), 'x');
        Check.due("elder ones do not count again", x.transfer(0, 3), 0);
    }

    /** "Each other way out is closed." */
    private static void eachOtherWayOut() {
        Refereehall x = Stage.at('x');
        String[] closed = {"assign", "decide", "showAhead", "publish", "retract", "seat"};
        for (String name : closed) {
            Check.due(name, Calls.make(x, name, 0), UNDECIDED);
        }
        Check.unsupported("revise", () -> x.revise(0, 1));
        Check.unsupported("sign", () -> x.sign(0, 0));
        Check.unsupported("invite", () -> x.invite(0, 1));
        Check.unsupported("report", () -> x.report(0, 4, 60, 0, true));
        Check.unsupported("meet", () -> x.meet(0, 1, 0));
        Check.unsupported("alarm", () -> x.alarm(0, 1));
        Check.due("still rejected", x.state(0), 'x');
    }
}
