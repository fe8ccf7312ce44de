/** Promise 15: which fault counts where two are possible, in one command and in two. */
public final class FaultOrderTest {
    private static final int MOST = Integer.MAX_VALUE;

    public static void main(String[] args) {
        missingFirst();
        misplacedBeforeAllBehindIt();
        fontBeforeMany();
        placeBeforeSums();
        placeBeforeMany();
        noFontFirst();
        tooFarBeforeMany();
        firstOfTwoCommands();
        atTheEnd();
        Expect.end();
    }

    private static void fault(String what, int fault, int place, Files file) {
        Faulty.file(what, fault, place, file);
    }

    private static Files manyFonts() {
        Files f = Files.begun();
        for (int i = 0; i < 256; i++) {
            f.font(i);
        }
        return f;
    }

    private static Files manyPages() {
        Files f = Files.begun();
        for (int i = 0; i < 1300; i++) {
            f.page(0).add(140);
        }
        return f;
    }

    /** A page with font 1 at hand and as many marks as there may be. */
    private static Files manyMarks() {
        return Files.inPage().font(1).add(172).times(2000, 65);
    }

    /** 1 comes before each of 2 to 9: bytes are missing, whatever else the command is. */
    private static void missingFirst() {
        fault("1 before 2, at the start", 1, 0, new Files().add(132, 0, 0, 0, 1, 0, 0, 0));
        fault("1 before 2, 248 at the start", 1, 0, new Files().add(248).times(27, 0));
        fault("1 before 2, 249 at the start", 1, 0, new Files().add(249).times(4, 0));
        fault("1 before 2, 247 of another kind", 1, 0, new Files().add(247, 3).times(12, 0));
        fault("1 before 2, 247 of another kind without its comment", 1, 0, new Files().add(247, 3).times(12, 0).add(1));
        fault("1 before 2, between pages", 1, 15, Files.begun().add(239, 1));
        fault("1 before 2, 249 of another kind", 1, 44, Files.begun().last().add(249, 9, 9, 9, 9));
        fault("1 before 2, 249 before 248", 1, 15, Files.begun().add(249, 9, 9, 9, 9));
        fault("1 before 2, a page in a page", 1, 60, Files.inPage().add(139).times(43, 0));
        fault("1 before 2, 248 in a page", 1, 60, Files.inPage().add(248).times(27, 0));
        fault("1 before 3, a font that is not told", 1, 60, Files.inPage().add(236, 1));
        fault("1 before 3, a font told in another way", 1, 78, Files.inPage().font(1).add(243, 1).four(0, 0, 0)
                .add(0, 1));
        fault("1 before 3, a new font behind 248", 1, 44, Files.begun().last().add(243, 1).times(13, 0));
        fault("1 before 5, 139", 1, 15, Files.begun().add(139).times(43, 0));
        fault("1 before 5, 248", 1, 15, Files.begun().add(248).times(27, 0));
        fault("1 before 6", 1, 15, Files.begun().add(248).four(-1, 0, 0, 0, 0, 0).add(0, 0, 0));
        fault("1 before 5, 249", 1, 44, Files.begun().last().add(249, 0, 0, 0, 0));
        fault("1 before 7", 1, 60, Files.inPage().add(129, 1));
        fault("1 before 8, right", 1, 65, Files.inPage().add(146).four(MOST).add(144, 1));
        fault("1 before 8, a rule", 1, 65, Files.inPage().add(146).four(MOST).add(132).four(1).add(0, 0, 1));
        fault("1 before 9, marks", 1, 2079, manyMarks().add(128));
        fault("1 before 9, fonts", 1, 15 + 256 * 18, manyFonts().add(244, 1, 0).times(13, 0));
        fault("1 before 9, pages", 1, 15 + 1300 * 46, manyPages().add(139).times(43, 0));
    }

    /** 2 comes before each of 3 to 9: what can't stand there is not looked at any more. */
    private static void misplacedBeforeAllBehindIt() {
        fault("2 before 3, a font is taken", 2, 15, Files.begun().add(172));
        fault("2 before 3, a font is told at the start", 2, 0, new Files().font(1));
        fault("2 before 4, pop", 2, 15, Files.begun().add(142));
        fault("2 before 4, 140", 2, 15, Files.begun().add(140));
        fault("2 before 5, 139 in a page", 2, 60, Files.inPage().add(139).times(44, 0));
        fault("2 before 5, 139 behind 248", 2, 44, Files.begun().last().add(139).times(44, 0));
        fault("2 before 5, 248 in a page", 2, 60, Files.inPage().add(248).times(28, 0));
        fault("2 before 5, 248 behind 248", 2, 44, Files.begun().last().add(248).times(28, 0));
        fault("2 before 5, 249", 2, 44, Files.begun().last().add(249).four(14).add(1).times(4, 223));
        fault("2 before 5, 249 in a page", 2, 60, Files.inPage().add(249).four(14).add(2).times(4, 223));
        fault("2 before 6", 2, 60, Files.inPage().add(248).four(15, 0, 0, 0, 0, 0, 0));
        fault("2 before 7, set", 2, 15, Files.begun().add(65));
        fault("2 before 7, put", 2, 15, Files.begun().add(133, 65));
        fault("2 before 7, behind a page", 2, 79, Files.inPage().font(1).add(140, 65));
        fault("2 before 8", 2, 66, Files.inPage().add(146).four(MOST).add(140, 143, 1));
        fault("2 before 9, a mark", 2, 2080, manyMarks().add(140, 65));
        fault("2 before 9, a rule", 2, 2080, manyMarks().add(140, 137).four(1, 1));
        fault("2 before 9, a page in a page", 2, 15 + 1299 * 46 + 45, lastPageOpen().page(0));
        fault("2 before 9, a page behind 248", 2, 15 + 1300 * 46 + 29, manyPages().last().page(0));
    }

    private static Files lastPageOpen() {
        Files f = Files.begun();
        for (int i = 0; i < 1299; i++) {
            f.page(0).add(140);
        }
        return f.page(0);
    }

    private static void fontBeforeMany() {
        int behind = 15 + 256 * 18;
        fault("3 before 9, told in another way", 3, behind, manyFonts().font(3, 0, 0, 0, "", ""));
        fault("3 before 9, a new one behind 248", 3, behind + 29, manyFonts().last().add(244, 1, 0).four(0, 0, 0)
                .add(0, 0));
        fault("then 9", 9, behind, manyFonts().add(244, 1, 0).four(0, 0, 0).add(0, 0));
        Expect.same("256 fonts, one again", 0, () -> manyFonts().font(3).last().veryLast(4).fed().read());
    }

    private static void placeBeforeSums() {
        fault("5 before 6, all wrong", 5, 15, Files.begun().last(1, 1, 1, 1, 1).veryLast(4));
        fault("5 before 6, the numerator", 5, 15, Files.begun().last(1, 1, 0, 0, 0).veryLast(4));
        fault("5 before 6, the pages", 5, 61, Files.inPage().add(140).last(1, 0, 0, 0, 1).veryLast(4));
        fault("then 6", 6, 61, Files.inPage().add(140).last(0, 0, 0, 0, 1).veryLast(4));
    }

    private static void placeBeforeMany() {
        fault("5 before 9", 5, 15 + 1300 * 46, manyPages().add(139).times(40, 0).four(3).add(140));
        fault("then 9", 9, 15 + 1300 * 46, manyPages().page(0).add(140));
    }

    private static void noFontFirst() {
        fault("7 before 8", 7, 65, Files.inPage().add(146).four(MOST).add(65));
        fault("7 before 9", 7, 2125, manyMarks().add(140).page(0).add(65));
        fault("7 before 9, put", 7, 2125, manyMarks().add(140).page(0).add(133, 65));
        fault("then 9", 9, 2126, manyMarks().add(140).page(0).add(172, 65));
    }

    private static void tooFarBeforeMany() {
        fault("8 before 9, a rule", 8, 2084, manyMarks().add(146).four(MOST).add(132).four(1, 1));
        fault("then 9, a rule that is put", 9, 2084, manyMarks().add(146).four(MOST).add(137).four(1, 1));
        DviBytes x = manyMarks().add(146).four(MOST).add(66).end().fed();
        x.width(1, 66, 1);
        Expect.same("8 before 9, a character", 802084, x::read);
        x.width(1, 66, 0);
        Expect.same("then 9, a character", 902084, x::read);
        DviBytes y = manyMarks().add(146).four(MOST).add(133, 66).end().fed();
        y.width(1, 66, 1);
        Expect.same("then 9, a character that is put", 902084, y::read);
    }

    /** Of two commands the first one counts, though its fault has the higher number. */
    private static void firstOfTwoCommands() {
        fault("9 before 1", 9, 2079, manyMarks().add(65, 128));
        fault("8 before 1", 8, 65, Files.inPage().add(146).four(MOST).add(143, 1, 128));
        fault("7 before 4", 7, 60, Files.inPage().add(65, 142, 255));
        fault("6 before 2", 6, 15, Files.begun().last(0, 0, 0, 0, 1).add(255));
        fault("5 before 2", 5, 15, Files.begun().add(139).times(44, 0).add(255));
        fault("4 before 1", 4, 60, Files.inPage().add(142, 128));
        fault("3 before 2", 3, 60, Files.inPage().add(172, 255));
        fault("2 before 1", 2, 60, Files.inPage().add(255, 128));
    }

    /** What a file lacks at its end has its place there, behind all commands. */
    private static void atTheEnd() {
        fault("1, and no end", 1, 60, Files.inPage().add(128));
        fault("4, and no end", 4, 61, Files.inPage().add(141, 140));
        fault("249's place before few 223", 5, 44, Files.begun().last().add(249).four(14).add(2, 223));
        fault("249's place before no 223", 5, 44, Files.begun().last().add(249).four(14).add(2));
        fault("249's 2 before few 223", 2, 44, Files.begun().last().add(249).four(15).add(3, 223));
        fault("another byte before few 223", 2, 52, Files.begun().last().veryLast(2).add(138, 223));
        fault("a page is open", 2, 61, Files.inPage().add(141));
        fault("a page is open, 249 in bytes of any kind", 2, 70,
                Files.inPage().add(239, 8).four(15).add(249, 2, 223, 223));
    }
}
