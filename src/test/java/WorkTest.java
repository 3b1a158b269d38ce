/** Promises 12 to 17: taking, translating, reviewing, rejecting, delivering and settling. */
public final class WorkTest {
    public static void main(String[] args) {
        promise12Take();
        promise12TakeFromMemory();
        promise12TakeWrong();
        promise13Translate();
        promise13TranslateSpreads();
        promise13TranslateDisputes();
        promise13TranslateWrong();
        promise13TranslateFullEntries();
        promise13TranslateFullDisputes();
        promise14Review();
        promise14ReviewWrong();
        promise14ReviewDisputed();
        promise14ReviewerOfTheLastFile();
        promise15Reject();
        promise15RejectWrong();
        promise16Deliver();
        promise16DeliverWrong();
        promise17SettleForTheFirst();
        promise17SettleForTheOther();
        promise17SettleFilesInHand();
        promise17SettleWrong();
        Check.finish("WorkTest");
    }

    /** A bureau with persons of the rates 10, 20 and 30. */
    private static MatchBureau withPersons() {
        MatchBureau x = new MatchBureau();
        x.addPerson(10);
        x.addPerson(20);
        x.addPerson(30);
        return x;
    }

    private static void promise12Take() {
        MatchBureau x = withPersons();
        Check.fileWith(x, "a b c.d.a b c");
        Check.due("take(0, 1)", x.take(0, 1), 4 * 20 + 3 * 2);
        Check.due("state", x.file(0, 0), 1);
        Check.due("translator", x.file(0, 4), 1);
        Check.due("reviewer", x.file(0, 5), -5);
        Check.due("price", x.file(0, 6), 86);
        Check.due("files of 1", x.person(1, 2), 1);
        Check.due("without targets", x.file(0, 8), 3);
        x.setShare(5, 50);
        Check.due("the price of then stays", x.file(0, 6), 86);
        Check.due("the price of now", x.price(0, 1), 40 + 6);
        Check.due("undo", x.undo(), 3);
        Check.due("undo of take", x.undo(), 2);
        Check.due("state after undo", x.file(0, 0), 0);
        Check.due("translator after undo", x.file(0, 4), -5);
        Check.due("price after undo", x.file(0, 6), -5);
    }

    private static void promise12TakeFromMemory() {
        MatchBureau x = withPersons();
        Check.entryWith(x, "a b", 7);
        Check.entryWith(x, "d", 8);
        Check.fileWith(x, "a b.a c.d.a b");
        Check.due("price with matches", x.take(0, 0), 2 * 2 + 2 * 8 + 2 + 2);
        Check.due("target 0", x.segment(0, 0, 1), 7);
        Check.due("way 0", x.segment(0, 0, 2), 3);
        Check.due("target 1", x.segment(0, 1, 1), -5);
        Check.due("way 1", x.segment(0, 1, 2), 0);
        Check.due("target 2", x.segment(0, 2, 1), 8);
        Check.due("target of the repeat", x.segment(0, 3, 1), 7);
        Check.due("way of the repeat", x.segment(0, 3, 2), 3);
    }

    private static void promise12TakeWrong() {
        MatchBureau x = withPersons();
        x.newFile();
        Check.due("no segments", x.take(0, 0), -4);
        Check.due("take(1, 0)", x.take(1, 0), -1);
        Check.due("take(0, 3)", x.take(0, 3), -1);
        Check.due("take(-1, 0)", x.take(-1, 0), -1);
        Check.due("take(0, -1)", x.take(0, -1), -1);
        Check.text(x, "a");
        x.readSegments(0);
        x.take(0, 0);
        Check.due("taken already", x.take(0, 1), -4);
        Check.due("taken already, no person", x.take(0, 9), -1);
        Check.due("its translator stays", x.file(0, 4), 0);
        x.withdraw(0);
        Check.due("withdrawn", x.take(0, 1), -4);
    }

    private static void promise13Translate() {
        MatchBureau x = withPersons();
        Check.fileWith(x, "a b.c");
        x.take(0, 0);
        Check.due("translate(0, 0, 1)", x.translate(0, 0, 1), 1);
        Check.due("target", x.segment(0, 0, 1), 1);
        Check.due("way", x.segment(0, 0, 2), 1);
        Check.due("a new entry", x.count(3), 1);
        Check.due("its target", x.entry(0, 1), 1);
        Check.due("its words", x.entry(0, 0), 2);
        Check.due("not settled", x.entry(0, 2), 0);
        Check.due("no dispute", x.count(4), 0);
        Check.due("it is an act", x.undo(), 3);
        Check.due("the entry is gone", x.count(3), 0);
        Check.due("the target is gone", x.segment(0, 0, 1), -5);
        Check.due("translate(0, 1, 999)", x.translate(0, 1, 999), 1);
        Check.due("the entry of the other", x.entry(0, 0), 1);
    }

    private static void promise13TranslateSpreads() {
        MatchBureau x = withPersons();
        Check.fileWith(x, "a b.c.a b");
        Check.fileWith(x, "a b.b a.a");
        Check.fileWith(x, "a b");
        Check.fileWith(x, "a b");
        x.take(0, 0);
        x.take(1, 1);
        x.take(3, 2);
        x.withdraw(3);
        Check.due("three get it", x.translate(0, 2, 5), 3);
        Check.due("the first, too", x.segment(0, 0, 1), 5);
        Check.due("way of the first", x.segment(0, 0, 2), 2);
        Check.due("way of itself", x.segment(0, 2, 2), 1);
        Check.due("way in the other file", x.segment(1, 0, 2), 2);
        Check.due("another order of words", x.segment(1, 1, 1), -5);
        Check.due("fewer words", x.segment(1, 2, 1), -5);
        Check.due("an open file", x.segment(2, 0, 1), -5);
        Check.due("a withdrawn file", x.segment(3, 0, 1), -5);
        Check.due("the same target of a spread one", x.translate(0, 0, 5), -5);
        Check.due("its way stays", x.segment(0, 0, 2), 2);
        Check.due("another target of a spread one", x.translate(0, 0, 6), 1);
        Check.due("its way then", x.segment(0, 0, 2), 1);
        Check.due("the others keep theirs", x.segment(1, 0, 1), 5);
    }

    private static void promise13TranslateDisputes() {
        MatchBureau x = withPersons();
        Check.entryWith(x, "a", 3);
        Check.fileWith(x, "a.b");
        x.take(0, 0);
        x.translate(0, 1, 8);
        Check.due("the target that it has from the memory", x.translate(0, 0, 3), -5);
        Check.due("no dispute yet", x.entry(0, 3), -5);
        Check.due("another one", x.translate(0, 0, 4), 1);
        Check.due("a dispute", x.count(4), 1);
        Check.due("dispute of the entry", x.entry(0, 3), 0);
        Check.due("entry of the dispute", x.dispute(0, 0), 0);
        Check.due("first target", x.dispute(0, 1), 3);
        Check.due("other target", x.dispute(0, 2), 4);
        Check.due("target of the entry stays", x.entry(0, 1), 3);
        Check.due("a third one", x.translate(0, 0, 5), 1);
        Check.due("still one dispute", x.count(4), 1);
        Check.due("with its targets", x.dispute(0, 2), 4);
        Check.due("back to the first one", x.translate(0, 0, 3), 1);
        Check.due("still open", x.count(5), 1);
        Check.due("another entry", x.translate(0, 1, 9), 1);
        Check.due("another dispute", x.dispute(1, 0), 1);
        Check.due("two open ones", x.count(5), 2);
    }

    private static void promise13TranslateWrong() {
        MatchBureau x = withPersons();
        Check.fileWith(x, "a.b");
        Check.due("translate in an open file", x.translate(0, 0, 5), -4);
        Check.due("with a wrong target", x.translate(0, 0, 0), -2);
        Check.due("no segment, wrong target", x.translate(0, 2, 0), -1);
        Check.due("segment -1", x.translate(0, -1, 5), -1);
        Check.due("no file", x.translate(1, 0, 5), -1);
        Check.due("file -1", x.translate(-1, 0, 5), -1);
        x.take(0, 0);
        Check.due("target 0", x.translate(0, 0, 0), -2);
        Check.due("target 1000", x.translate(0, 0, 1000), -2);
        Check.due("target -5", x.translate(0, 0, -5), -2);
        int states = x.count(15);
        Check.due("states", states, 4);
        x.translate(0, 0, 5);
        x.translate(0, 1, 5);
        x.translate(0, 0, 6);
        x.settle(0, 1);
        Check.due("another than the settled one", x.translate(0, 0, 5), -4);
        Check.due("the settled one", x.translate(0, 0, 6), -5);
        Check.due("the other entry is free", x.translate(0, 1, 7), 1);
        x.settle(1, 0);
        x.review(0, 1);
        Check.due("translate in review", x.translate(0, 0, 6), -4);
        x.reject(0, 0);
        Check.due("another after reject", x.translate(0, 0, 5), -4);
        Check.due("a settled one after reject", x.translate(0, 0, 6), 1);
        Check.due("no new dispute of it", x.count(4), 2);
    }

    private static void promise13TranslateFullEntries() {
        MatchBureau x = withPersons();
        Check.fileWith(x, "new.aa");
        x.take(0, 0);
        for (int i = 0; i < 40; i++) {
            Check.entryWith(x, "" + (char) ('a' + i / 26) + (char) ('a' + i % 26), 5);
        }
        Check.due("a forty-first entry", x.translate(0, 0, 5), -3);
        Check.due("a wrong target", x.translate(0, 0, 0), -2);
        Check.due("it changes nothing", x.segment(0, 0, 1), -5);
        Check.due("an alike entry", x.translate(0, 1, 5), 1);
        Check.due("a dispute needs no entry", x.translate(0, 1, 6), 1);
        x.withdraw(0);
        Check.due("a withdrawn file", x.translate(0, 0, 5), -4);
    }

    private static void promise13TranslateFullDisputes() {
        MatchBureau x = withPersons();
        Check.fileWith(x, "a.b.c.d.e.f.g.h.i.j.k.l");
        x.take(0, 0);
        for (int i = 0; i < 12; i++) {
            x.translate(0, i, 1);
        }
        for (int i = 0; i < 10; i++) {
            Check.due("dispute " + i, x.translate(0, i, 2), 1);
        }
        Check.due("an eleventh", x.translate(0, 10, 2), -3);
        Check.due("it changes nothing", x.segment(0, 10, 1), 1);
        Check.due("the same target", x.translate(0, 10, 1), -5);
        Check.due("a disputed one", x.translate(0, 9, 3), 1);
        x.settle(0, 1);
        Check.due("an eleventh after a settlement", x.translate(0, 10, 2), -3);
        Check.due("a settled one, another target", x.translate(0, 0, 1), -4);
        Check.due("disputes", x.count(4), 10);
        Check.due("open ones", x.count(5), 9);
    }

    private static void promise14Review() {
        MatchBureau x = withPersons();
        Check.entryWith(x, "d", 3);
        Check.fileWith(x, "a.b.a.d");
        x.take(0, 0);
        x.translate(0, 0, 1);
        x.translate(0, 1, 2);
        Check.due("review(0, 2)", x.review(0, 2), 2);
        Check.due("state", x.file(0, 0), 2);
        Check.due("reviewer", x.file(0, 5), 2);
        Check.due("translator", x.file(0, 4), 0);
        Check.due("files of the translator", x.person(0, 2), 1);
        Check.due("files of the reviewer", x.person(2, 3), 1);
        Check.due("last reviewer", x.person(0, 7), 2);
        Check.due("cost", x.file(0, 7), x.file(0, 6));
        Check.due("undo", x.undo(), 3);
        Check.due("last reviewer after undo", x.person(0, 7), -5);
        Check.due("reviewer after undo", x.file(0, 5), -5);
    }

    private static void promise14ReviewWrong() {
        MatchBureau x = withPersons();
        Check.fileWith(x, "a.b");
        Check.due("review(1, 0)", x.review(1, 0), -1);
        Check.due("review(0, 3)", x.review(0, 3), -1);
        Check.due("review(-1, 0)", x.review(-1, 0), -1);
        Check.due("review(0, -1)", x.review(0, -1), -1);
        Check.due("an open file", x.review(0, 1), -4);
        x.take(0, 0);
        x.translate(0, 1, 5);
        Check.due("a segment without a target", x.review(0, 1), -4);
        x.translate(0, 0, 5);
        Check.due("its translator", x.review(0, 0), -4);
        x.bar(1, 0, true);
        Check.due("a barred one", x.review(0, 1), -4);
        Check.due("the state stays", x.file(0, 0), 1);
        Check.due("no last reviewer", x.person(0, 7), -5);
        Check.due("another one", x.review(0, 2), 2);
        Check.due("in review already", x.review(0, 2), -4);
        x.deliver(0);
        Check.due("delivered", x.review(0, 2), -4);
    }

    private static void promise14ReviewDisputed() {
        MatchBureau x = withPersons();
        Check.entryWith(x, "a", 3);
        Check.fileWith(x, "a.b");
        Check.fileWith(x, "b.a");
        Check.fileWith(x, "b");
        x.take(0, 0);
        x.take(1, 1);
        x.take(2, 1);
        x.translate(0, 1, 7);
        x.translate(0, 0, 4);
        Check.due("a dispute in the file", x.review(0, 1), -4);
        Check.due("a dispute from another file", x.review(1, 0), -4);
        Check.due("a file without a disputed segment", x.review(2, 0), 0);
        x.settle(0, 0);
        Check.due("after the settlement", x.review(1, 2), 0);
        Check.due("the first one, too", x.review(0, 1), 1);
    }

    private static void promise14ReviewerOfTheLastFile() {
        MatchBureau x = withPersons();
        Check.entryWith(x, "a", 3);
        for (int i = 0; i < 5; i++) {
            Check.fileWith(x, "a");
        }
        x.take(0, 0);
        x.take(1, 0);
        x.take(2, 1);
        x.take(3, 0);
        x.review(0, 2);
        Check.due("the same reviewer again", x.review(1, 2), -4);
        Check.due("the same one for another translator", x.review(2, 2), 0);
        x.deliver(0);
        Check.due("after a delivery", x.review(1, 2), -4);
        Check.due("another reviewer", x.review(1, 1), 0);
        Check.due("the first one then", x.review(3, 2), 0);
        x.take(4, 0);
        x.reject(3, 0);
        x.translate(3, 0, 3);
        Check.due("the rejected one again", x.review(3, 2), -4);
        Check.due("another file of the same", x.review(4, 2), -4);
        Check.due("the rejected one by another", x.review(3, 1), 1);
        x.withdraw(3);
        Check.due("after a withdrawal", x.review(4, 1), -4);
        Check.due("not a problem for the other", x.review(4, 2), 0);
    }

    private static void promise15Reject() {
        MatchBureau x = withPersons();
        Check.entryWith(x, "a", 3);
        Check.fileWith(x, "a.a.b");
        int price = x.take(0, 0);
        x.translate(0, 2, 6);
        x.review(0, 1);
        x.setShare(5, 0);
        Check.due("reject(0, 1)", x.reject(0, 1), 1);
        Check.due("state", x.file(0, 0), 1);
        Check.due("translator", x.file(0, 4), 0);
        Check.due("reviewer", x.file(0, 5), -5);
        Check.due("price", x.file(0, 6), price);
        Check.due("cost", x.file(0, 7), price);
        Check.due("target", x.segment(0, 1, 1), -5);
        Check.due("way", x.segment(0, 1, 2), 0);
        Check.due("the alike one keeps its target", x.segment(0, 0, 1), 3);
        Check.due("files of the reviewer", x.person(1, 3), 0);
        Check.due("rejected so far", x.file(0, 9), 1);
        Check.due("it is an act", x.count(15), 4);
        x.translate(0, 1, 3);
        x.review(0, 2);
        Check.due("reject(0, 2)", x.reject(0, 2), 2);
        Check.due("rejected so far", x.file(0, 9), 2);
        x.undo();
        Check.due("rejected after undo", x.file(0, 9), 1);
        Check.due("state after undo", x.file(0, 0), 2);
        Check.due("reviewer after undo", x.file(0, 5), 2);
    }

    private static void promise15RejectWrong() {
        MatchBureau x = withPersons();
        Check.entryWith(x, "a", 3);
        Check.fileWith(x, "a");
        Check.due("reject(0, 1)", x.reject(0, 1), -1);
        Check.due("reject(0, -1)", x.reject(0, -1), -1);
        Check.due("reject(1, 0)", x.reject(1, 0), -1);
        Check.due("reject(-1, 0)", x.reject(-1, 0), -1);
        Check.due("an open file", x.reject(0, 0), -4);
        x.take(0, 0);
        Check.due("a taken file", x.reject(0, 0), -4);
        x.review(0, 1);
        x.deliver(0);
        Check.due("a delivered file", x.reject(0, 0), -4);
        Check.due("its target stays", x.segment(0, 0, 1), 3);
    }

    private static void promise16Deliver() {
        MatchBureau x = withPersons();
        Check.entryWith(x, "a b c", 3);
        Check.fileWith(x, "a b c.d");
        x.take(0, 1);
        x.translate(0, 1, 2);
        x.review(0, 2);
        Check.due("paid before", x.count(8), 0);
        Check.due("deliver(0)", x.deliver(0), 3 * 4 + 20 + 8);
        Check.due("state", x.file(0, 0), 3);
        Check.due("paid to the translator", x.person(1, 6), 32);
        Check.due("paid to the reviewer", x.person(2, 6), 8);
        Check.due("paid to the other", x.person(0, 6), 0);
        Check.due("words translated", x.person(1, 4), 4);
        Check.due("words reviewed", x.person(2, 5), 4);
        Check.due("words not reviewed", x.person(1, 5), 0);
        Check.due("words not translated", x.person(2, 4), 0);
        Check.due("paid in all", x.count(8), 40);
        Check.due("delivered words", x.count(7), 4);
        Check.due("cost", x.file(0, 7), 40);
        Check.due("price", x.file(0, 6), 32);
        Check.due("translator", x.file(0, 4), 1);
        Check.due("reviewer", x.file(0, 5), 2);
        Check.due("no longer translating", x.person(1, 2), 0);
        Check.due("no longer reviewing", x.person(2, 3), 0);
        Check.due("it is an act", x.undo(), 3);
        Check.due("paid after undo", x.person(1, 6) + x.person(2, 6) + x.count(8), 0);
    }

    private static void promise16DeliverWrong() {
        MatchBureau x = withPersons();
        Check.due("deliver(0)", x.deliver(0), -1);
        Check.due("deliver(-1)", x.deliver(-1), -1);
        Check.entryWith(x, "a", 3);
        Check.fileWith(x, "a");
        Check.due("an open one", x.deliver(0), -4);
        x.take(0, 0);
        Check.due("a taken one", x.deliver(0), -4);
        x.review(0, 1);
        Check.due("one in review", x.deliver(0), 4);
        Check.due("a delivered one", x.deliver(0), -4);
        Check.due("paid once", x.count(8), 4);
    }

    /** Files 0 (taken), 1 (taken) and 2 (open) with segments "a", whose entry 0 is disputed: 3 or 4. */
    private static MatchBureau withDispute() {
        MatchBureau x = withPersons();
        Check.entryWith(x, "a", 3);
        Check.fileWith(x, "a.b.a");
        Check.fileWith(x, "a");
        Check.fileWith(x, "a");
        x.take(0, 0);
        x.take(1, 1);
        x.translate(0, 1, 3);
        x.translate(0, 0, 4);
        return x;
    }

    private static void promise17SettleForTheFirst() {
        MatchBureau x = withDispute();
        Check.due("settle(0, 0)", x.settle(0, 0), 1);
        Check.due("the entry keeps its target", x.entry(0, 1), 3);
        Check.due("it is settled", x.entry(0, 2), 1);
        Check.due("no open dispute", x.entry(0, 3), -5);
        Check.due("chosen", x.dispute(0, 4), 3);
        Check.due("settled", x.dispute(0, 3), 1);
        Check.due("the other one gets it", x.segment(0, 0, 1), 3);
        Check.due("its way", x.segment(0, 0, 2), 4);
        Check.due("the way of one that had it", x.segment(0, 2, 2), 3);
        Check.due("the way of another segment", x.segment(0, 1, 2), 1);
        Check.due("the open file", x.segment(2, 0, 1), -5);
    }

    private static void promise17SettleForTheOther() {
        MatchBureau x = withDispute();
        x.translate(1, 0, 5);
        Check.due("settle(0, 1)", x.settle(0, 1), 2);
        Check.due("the entry has the other target", x.entry(0, 1), 4);
        Check.due("the first target is told still", x.dispute(0, 1), 3);
        Check.due("the other target is told still", x.dispute(0, 2), 4);
        Check.due("chosen", x.dispute(0, 4), 4);
        Check.due("the one that had it", x.segment(0, 0, 2), 1);
        Check.due("the one from the memory", x.segment(0, 2, 1), 4);
        Check.due("its way", x.segment(0, 2, 2), 4);
        Check.due("a third target is replaced, too", x.segment(1, 0, 1), 4);
        Check.due("its way, too", x.segment(1, 0, 2), 4);
        Check.due("another entry is as it was", x.entry(1, 1) + x.entry(1, 2), 3);
        Check.due("it is an act", x.undo(), 3);
        Check.due("open again", x.dispute(0, 3), 0);
        Check.due("chosen after undo", x.dispute(0, 4), -5);
        Check.due("the entry after undo", x.entry(0, 1) * 10 + x.entry(0, 2), 30);
        x.settle(0, 0);
        x.take(2, 2);
        Check.due("later files get the settled one", x.segment(2, 0, 1), 3);
    }

    private static void promise17SettleFilesInHand() {
        MatchBureau x = withPersons();
        Check.entryWith(x, "a", 3);
        for (int i = 0; i < 5; i++) {
            Check.fileWith(x, "a");
        }
        x.take(0, 0);
        x.take(1, 0);
        x.take(2, 1);
        x.take(3, 2);
        x.review(0, 1);
        x.review(1, 2);
        x.deliver(1);
        x.withdraw(3);
        x.translate(2, 0, 4);
        Check.due("settle for the other", x.settle(0, 1), 1);
        Check.due("in review", x.segment(0, 0, 1), 4);
        Check.due("its way", x.segment(0, 0, 2), 4);
        Check.due("delivered", x.segment(1, 0, 1), 3);
        Check.due("taken", x.segment(2, 0, 2), 1);
        Check.due("withdrawn", x.segment(3, 0, 1), 3);
        Check.due("open", x.segment(4, 0, 1), -5);
        x.reject(0, 0);
        Check.due("without a target", x.segment(0, 0, 1), -5);
    }

    private static void promise17SettleWrong() {
        MatchBureau x = withDispute();
        Check.due("settle(-1, 0)", x.settle(-1, 0), -1);
        Check.due("settle(1, 0)", x.settle(1, 0), -1);
        Check.due("settle(1, 2)", x.settle(1, 2), -1);
        Check.due("settle(0, 2)", x.settle(0, 2), -2);
        Check.due("settle(0, -1)", x.settle(0, -1), -2);
        Check.due("still open", x.count(5), 1);
        x.translate(1, 0, 9);
        x.withdraw(1);
        x.withdraw(0);
        Check.due("with no file in hand", x.settle(0, 1), 0);
        Check.due("settled already", x.settle(0, 1), -4);
        Check.due("settled already, the other one", x.settle(0, 0), -4);
        Check.due("settled already, wrong value", x.settle(0, 2), -2);
        Check.due("the entry keeps it", x.entry(0, 1), 4);
    }
}
