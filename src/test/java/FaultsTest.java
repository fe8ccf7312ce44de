import java.util.Arrays;

/** Faults 1 to 9 of a file, their places, and which of them comes first. */
public final class FaultsTest {
    private static final int[] PAGE_BYTES = {128, 129, 130, 131, 133, 134, 135, 136, 143, 144, 145, 146, 148, 149, 150,
        151, 153, 154, 155, 156, 157, 158, 159, 160, 162, 163, 164, 165, 167, 168, 169, 170, 235, 236, 237, 238};

    public static void main(String[] args) {
        missing();
        missingBeforeAllElse();
        misplacedAtTheStart();
        misplacedBetween();
        misplacedInAPage();
        misplacedBehindTheLast();
        fillers();
        behindTheVeryLast();
        endsEarly();
        fontFaults();
        depthFaults();
        placeFaults();
        sumFaults();
        noFont();
        tooFar();
        tooMany();
        order();
        Expect.end();
    }

    private static void fault(String what, int fault, int place, Files file) {
        DviBytes x = file.fed();
        Expect.same(what, 100000 * fault + place, x::read);
        Expect.same(what + ": nothing is read", "0 0 0 0", () -> x.about(0) + " " + x.about(1) + " " + x.about(2) + " "
                + x.about(3));
    }

    private static void fine(String what, Files file) {
        Expect.same(what, 0, () -> file.fed().read());
    }

    /** A command that can't stand there: cut short it has fault 1, whole it has fault 2. */
    private static void cut(String what, int... command) {
        for (int n = 1; n < command.length; n++) {
            fault(what + ", " + n + " in a page", 1, 60, Files.inPage().add(Arrays.copyOf(command, n)));
            fault(what + ", " + n + " behind 248", 1, 44, Files.begun().last().add(Arrays.copyOf(command, n)));
        }
        fault(what + ", whole in a page", 2, 60, Files.inPage().add(command));
    }

    private static void missing() {
        for (int code : PAGE_BYTES) {
            int start = code < 133 ? 128 : code < 143 ? 133 : code < 148 ? 143 : code < 153 ? 148 : code < 157 ? 153
                    : code < 162 ? 157 : code < 167 ? 162 : code < 235 ? 167 : 235;
            Files f = Files.inPage().font(0).add(171);
            int place = f.length();
            f.add(code);
            for (int n = 0; n < code - start + 1; n++) {
                fault("command " + code + " with " + n, 1, place, f);
                f.add(0);
            }
            fault("command " + code + " whole", 2, f.length(), f);
        }
        Files f = Files.inPage().add(132);
        Files g = Files.inPage().add(137);
        for (int n = 0; n < 8; n++) {
            fault("set a rule with " + n, 1, 60, f);
            fault("put a rule with " + n, 1, 60, g);
            f.add(0);
            g.add(0);
        }
        fault("set a rule, whole", 2, 69, f);
        Files page = Files.begun().add(139);
        for (int n = 0; n < 44; n++) {
            fault("139 with " + n, 1, 15, page);
            page.add(255);
        }
        fault("139 whole", 2, 60, page);
        fault("239 without its number", 1, 60, Files.inPage().add(239));
        fault("239 without its bytes", 1, 60, Files.inPage().add(239, 3, 0, 0));
        fault("240 without its bytes", 1, 60, Files.inPage().add(240, 0, 3, 0, 0));
        fault("241 without its bytes", 1, 60, Files.inPage().add(241, 128, 0, 0, 0, 0));
        fault("242 without its bytes", 1, 60, Files.inPage().add(242, 127, 255, 255, 255, 0));
        fault("242 below 0", 1, 60, Files.inPage().add(242, 255, 255, 255, 255).times(50, 0));
        fault("242 far below 0", 1, 60, Files.inPage().add(242, 128, 0, 0, 0).times(50, 0));
        for (int code = 243; code <= 246; code++) {
            Files h = Files.inPage().add(code);
            for (int n = 0; n < code - 242 + 12; n++) {
                fault(code + " with " + n, 1, 60, h);
                h.add(0);
            }
            h.add(2);
            fault(code + " without l", 1, 60, h);
            h.add(1, 'x', 'y');
            fault(code + " without the name's end", 1, 60, h);
            fault(code + " whole", 2, h.length() + 1, h.add('z'));
        }
        byte[] first = new Files().first(3).row();
        for (int n = 1; n < first.length; n++) {
            DviBytes x = new Files().first(3).fed();
            x.keep(n);
            Expect.same("247 of " + n, 100000, x::read);
        }
        fault("247 whole", 2, 18, new Files().first(3));
        byte[] end = Files.begun().last().veryLast(4).row();
        for (int n = 16; n < 50; n++) {
            DviBytes x = new DviBytes();
            Files.feed(x, Arrays.copyOf(end, n));
            Expect.same("the end, " + n, n < 44 ? 100015 : n == 44 ? 200044 : 100044, x::read);
        }
    }

    private static void missingBeforeAllElse() {
        cut("247", 247, 2, 0, 0, 0, 0, 0, 0, 0, 0, 0, 0, 0, 0, 1, 7);
        cut("249", 249, 0, 0, 0, 0, 2);
        int[] page = new int[45];
        page[0] = 139;
        cut("139", page);
        fault("a rule at the start", 1, 0, new Files().add(132, 0, 0, 0, 1, 0, 0, 0));
        fault("248 at the start", 1, 0, new Files().add(248).times(27, 0));
        fault("any bytes between pages", 1, 15, Files.begun().add(239, 1));
    }

    private static void misplacedAtTheStart() {
        fault("an empty file", 2, 0, new Files());
        for (int code = 0; code < 256; code++) {
            if (code != 247) {
                fault("starts with " + code, 2, 0, new Files().add(code).times(300, 0));
            }
        }
        fault("247 of another kind", 2, 0, new Files().add(247, 3).times(13, 0));
        fault("247 of kind 0", 2, 0, new Files().add(247, 0).times(13, 0));
        fault("247 alone", 2, 15, Files.begun());
    }

    private static boolean isDefinition(int code) {
        return code >= 243 && code <= 246;
    }

    private static void misplacedBetween() {
        for (int code = 0; code < 256; code++) {
            if (code != 138 && code != 139 && code != 248 && !isDefinition(code)) {
                fault(code + " before the pages", 2, 15, Files.begun().add(code).times(300, 0));
                fault(code + " behind a page", 2, 61, Files.inPage().add(140, code).times(300, 0));
            }
        }
    }

    private static void misplacedInAPage() {
        int[] codes = {139, 247, 248, 249, 250, 251, 252, 253, 254, 255};
        for (int code : codes) {
            fault(code + " in a page", 2, 60, Files.inPage().add(code).times(300, 0));
        }
        fault("247 again", 2, 15, Files.begun().first(0));
        fault("247 in a page, of the right kind", 2, 60, Files.inPage().first(0));
        fault("249 in a page, of the right kind", 2, 60, Files.inPage().veryLast(4));
        fault("249 without 248", 2, 15, Files.begun().veryLast(4));
        fault("248 again", 2, 44, Files.begun().last().last().veryLast(4));
        fault("a page in a page", 2, 60, Files.inPage().page(0).end());
        fault("248 in a page", 2, 60, Files.inPage().last().veryLast(4));
    }

    private static void misplacedBehindTheLast() {
        for (int code = 0; code < 256; code++) {
            if (code != 138 && code != 249 && !isDefinition(code)) {
                fault(code + " behind 248", 2, 44, Files.begun().last().add(code).times(300, 0));
            }
        }
        fault("249 of another kind", 2, 44, Files.begun().last().add(249).four(15).add(3, 223, 223, 223, 223));
    }

    private static void fillers() {
        for (int n = 0; n < 4; n++) {
            fault(n + " fillers", 2, 50 + n, Files.begun().last().veryLast(n));
        }
        for (int n = 4; n < 12; n++) {
            fine(n + " fillers", Files.begun().last().veryLast(n));
        }
        DviBytes x = Files.begun().last().veryLast(4).fed();
        Expect.same("four fillers, read once", 0, x::read);
        x.keep(53);
        Expect.same("the former read's fillers do not count", 200053, x::read);
        x.keep(44);
        Expect.same("nor without 249", 200044, x::read);
    }

    /** How many bytes a command has behind its code if all of them are 0. */
    private static int bytesBehind(int code) {
        for (int first : new int[] {128, 133, 143, 148, 153, 157, 162, 167, 235, 239, 243}) {
            if (code >= first && code < first + 4) {
                return code - first + 1 + (first == 243 ? 14 : 0);
            }
        }
        return switch (code) {
            case 132, 137 -> 8;
            case 139 -> 44;
            case 247 -> 14;
            case 248 -> 28;
            case 249 -> 5;
            default -> 0;
        };
    }

    /** A command behind 249: cut short it has fault 1, whole it has fault 2, if it is not 223. */
    private static void behindTheVeryLast() {
        for (int code = 0; code < 256; code++) {
            if (code == 223) {
                continue;
            }
            for (int fillers : new int[] {0, 2, 4, 7}) {
                Files f = Files.begun().last().veryLast(fillers).add(code);
                int place = 50 + fillers;
                for (int n = 0; n < bytesBehind(code); n++) {
                    fault(fillers + " fillers and " + code + " with " + n, 1, place, f);
                    f.add(0);
                }
                fault(fillers + " fillers and " + code + " whole", 2, place, f);
                fault(fillers + " fillers, " + code + " and more", 2, place, f.times(9, 223));
            }
        }
        textBehindTheVeryLast("239", 239, 3, 'a', 'b', 'c');
        textBehindTheVeryLast("242", 242, 0, 0, 0, 2, 'a', 'b');
        textBehindTheVeryLast("243", 243, 1, 0, 0, 0, 0, 0, 0, 0, 0, 0, 0, 0, 0, 1, 2, 'a', 'b', 'c');
        textBehindTheVeryLast("247", 247, 2, 0, 0, 0, 0, 0, 0, 0, 0, 0, 0, 0, 0, 2, 'a', 'b');
        textBehindTheVeryLast("249", 249, 0, 0, 0, 15, 2);
        fault("242 below 0", 1, 54, Files.begun().last().veryLast(4).add(242, 255, 255, 255, 255).times(50, 223));
        fault("239 takes what is there", 1, 54, Files.begun().last().veryLast(4).add(239, 223).times(222, 223));
        fault("239 has what it takes", 2, 54, Files.begun().last().veryLast(4).add(239, 223).times(223, 223));
        fault("the first of two", 2, 54, Files.begun().last().veryLast(4).add(138, 139));
        fault("249's place before it", 5, 44, Files.begun().last().add(249).four(14).add(2).times(4, 223).add(139));
        fault("249's 2 before it", 2, 44, Files.begun().last().add(249).four(15).add(1).times(4, 223).add(139));
    }

    private static void textBehindTheVeryLast(String what, int... command) {
        for (int n = 1; n < command.length; n++) {
            fault(what + ", " + n + " behind 249", 1, 54,
                    Files.begun().last().veryLast(4).add(Arrays.copyOf(command, n)));
        }
        fault(what + ", whole behind 249", 2, 54, Files.begun().last().veryLast(4).add(command));
    }

    private static void endsEarly() {
        fault("in a page", 2, 60, Files.inPage());
        fault("behind a page", 2, 61, Files.inPage().add(140));
        fault("behind 248", 2, 44, Files.begun().last());
        fault("behind 138", 2, 45, Files.begun().last().add(138));
    }

    private static void fontFaults() {
        for (int f = 0; f < 64; f++) {
            fault("font " + f + " is not told", 3, 60, Files.inPage().add(171 + f, 140));
        }
        fault("235", 3, 60, Files.inPage().add(235, 1, 140));
        fault("236, another font is told", 3, 78, Files.inPage().font(1).add(236, 1, 1, 140));
        fault("237", 3, 78, Files.inPage().font(1).add(237, 1, 0, 1, 140));
        fault("238", 3, 78, Files.inPage().font(1).add(238, 1, 0, 0, 1, 140));
        fault("told behind it", 3, 60, Files.inPage().add(172).font(1).end());
        fine("told on a former page", Files.inPage().font(1).add(140).page(0).add(172).end());
        fine("told again", Files.inPage().font(1).font(1).end());
        fault("another check", 3, 78, Files.inPage().font(1).font(1, 6, 8, 9, "", "ab").end());
        fault("another size", 3, 78, Files.inPage().font(1).font(1, 7, 7, 9, "", "ab").end());
        fault("another design", 3, 78, Files.inPage().font(1).font(1, 7, 8, 8, "", "ab").end());
        fault("another name", 3, 78, Files.inPage().font(1).font(1, 7, 8, 9, "", "ac").end());
        fault("a shorter name", 3, 78, Files.inPage().font(1).font(1, 7, 8, 9, "", "a").end());
        fault("a longer name", 3, 78, Files.inPage().font(1).font(1, 7, 8, 9, "", "abc").end());
        fine("the same name in other parts", Files.inPage().font(1).font(1, 7, 8, 9, "a", "b").end());
        fine("all in the first part", Files.inPage().font(1).font(1, 7, 8, 9, "ab", "").end());
        fine("another command", Files.inPage().font(1).add(244, 0, 1).four(7, 8, 9).add(0, 2, 'a', 'b').end());
        fault("another one between pages", 3, 79, Files.inPage().font(1).add(140).font(1, 6, 8, 9, "", "ab"));
        fine("told again behind 248", Files.begun().font(1).last().font(1).font(1).veryLast(4));
        fault("another one behind 248", 3, 62, Files.begun().font(1).last().font(1, 6, 8, 9, "", "ab").veryLast(4));
        fault("a new one behind 248", 3, 62, Files.begun().font(1).last().font(2).veryLast(4));
        fine("none behind 248", Files.begun().font(1).last().veryLast(4));
    }

    private static void depthFaults() {
        fault("pop", 4, 60, Files.inPage().add(142).end());
        fault("pop twice", 4, 62, Files.inPage().add(141, 142, 142).end());
        fault("pushed still", 4, 61, Files.inPage().add(141).end());
        fault("pushed still, two", 4, 63, Files.inPage().add(141, 141, 142).end());
        fault("pushed 101", 4, 160, Files.inPage().times(101, 141).times(101, 142).end());
        fine("pushed 100", Files.inPage().times(100, 141).times(100, 142).end());
        fault("pop on a new page", 4, 108, Files.inPage().add(141, 142, 140).page(0).add(142).end());
    }

    private static void placeFaults() {
        fault("a first page behind another", 5, 15, Files.begun().add(139).times(40, 0).four(0).add(140));
        fault("a second page without a former", 5, 61, Files.inPage().add(140, 139).times(40, 0).four(-1).add(140));
        fault("a second page behind another", 5, 61, Files.inPage().add(140, 139).times(40, 0).four(14).add(140));
        fault("a third page behind the first", 5, 107, Files.inPage().add(140).page(0).add(140, 139).times(40, 0)
                .four(15).add(140));
        fault("248 behind no page", 5, 15, Files.begun().last(16, 0, 0, 0, 0).veryLast(4));
        fault("248 behind another page", 5, 61, Files.inPage().add(140).last(1, 0, 0, 0, 0).veryLast(4));
        fault("249 behind another 248", 5, 44, Files.begun().last().add(249).four(14).add(2).times(4, 223));
        fault("249 far behind", 5, 44, Files.begun().last().add(249).four(-1).add(2).times(4, 223));
    }

    private static void sumFaults() {
        fault("numerator", 6, 15, Files.begun().last(0, 1, 0, 0, 0).veryLast(4));
        fault("denominator", 6, 15, Files.begun().last(0, 0, 1, 0, 0).veryLast(4));
        fault("magnification", 6, 15, Files.begun().last(0, 0, 0, 1, 0).veryLast(4));
        fault("pages", 6, 15, Files.begun().last(0, 0, 0, 0, 1).veryLast(4));
        fault("too few pages", 6, 61, Files.inPage().add(140).last(0, 0, 0, 0, -1).veryLast(4));
        fault("256 pages too many", 6, 61, Files.inPage().add(140).last(0, 0, 0, 0, 256).veryLast(4));
        fine("the lowest 16 bits", Files.inPage().add(140).last(0, 0, 0, 0, 65536).veryLast(4));
    }

    private static void noFont() {
        for (int c = 0; c < 128; c++) {
            fault("character " + c, 7, 60, Files.inPage().add(c).end());
        }
        for (int code = 128; code <= 136; code++) {
            if (code != 132) {
                fault("command " + code, 7, 60, Files.inPage().add(code, 0, 0, 0, 0).end());
            }
        }
        fault("told, not taken", 7, 78, Files.inPage().font(1).add(65).end());
        fault("taken on the former page", 7, 125, Files.inPage().font(1).add(172, 140).page(0).add(65).end());
    }

    private static void tooFar() {
        Files edge = Files.inPage().add(146).four(Integer.MAX_VALUE);
        fine("the greatest h", edge.end());
        fault("right", 8, 65, Files.inPage().add(146).four(Integer.MAX_VALUE).add(143, 1).end());
        fault("right back", 8, 65, Files.inPage().add(146).four(Integer.MIN_VALUE).add(143, 255).end());
        fault("w", 8, 65, Files.inPage().add(151).four(Integer.MAX_VALUE).add(147).end());
        fault("x", 8, 65, Files.inPage().add(156).four(Integer.MAX_VALUE).add(152).end());
        fault("a new w", 8, 65, Files.inPage().add(156).four(Integer.MAX_VALUE).add(148, 1).end());
        fault("a new x", 8, 65, Files.inPage().add(156).four(Integer.MAX_VALUE).add(153, 1).end());
        fault("down", 8, 65, Files.inPage().add(160).four(Integer.MAX_VALUE).add(157, 1).end());
        fault("up", 8, 65, Files.inPage().add(160).four(Integer.MIN_VALUE).add(157, 255).end());
        fault("y", 8, 65, Files.inPage().add(165).four(Integer.MIN_VALUE).add(161).end());
        fault("z", 8, 65, Files.inPage().add(170).four(Integer.MIN_VALUE).add(166).end());
        fine("h and v have their own", Files.inPage().add(146).four(Integer.MAX_VALUE).add(160)
                .four(Integer.MAX_VALUE).end());
        fault("a rule is set", 8, 65, Files.inPage().add(146).four(Integer.MAX_VALUE).add(132).four(1, 1).end());
        fault("a rule that is no mark is set", 8, 65,
                Files.inPage().add(146).four(Integer.MAX_VALUE).add(132).four(0, 1).end());
        fine("a rule is put", Files.inPage().add(146).four(Integer.MAX_VALUE).add(137).four(1, 1).end());
        DviBytes x = Files.inPage().font(1).add(172, 146).four(Integer.MAX_VALUE).add(65).end().fed();
        Expect.same("no width", 0, x::read);
        x.width(1, 65, 1);
        Expect.same("a width", 800084, x::read);
        x.width(1, 65, -1);
        Expect.same("a width below 0", 0, x::read);
        DviBytes y = Files.inPage().font(1).add(172, 146).four(Integer.MAX_VALUE).add(133, 65).end().fed();
        y.width(1, 65, 1);
        Expect.same("put, with a width", 0, y::read);
    }

    private static void tooMany() {
        fault("2001 characters", 9, 2079, Files.inPage().font(1).add(172).times(2001, 65).end());
        fault("2001st is a rule", 9, 2079, Files.inPage().font(1).add(172).times(2000, 65).add(137).four(1, 1).end());
        fine("what is no mark does not count",
                Files.inPage().font(1).add(172).times(2000, 65).add(137).four(0, 1).add(132).four(1, 0).end());
        fault("on several pages", 9, 2126, Files.inPage().font(1).add(172).times(1999, 65).add(140).page(0)
                .add(172, 65, 65).end());
        Files fonts = Files.begun();
        for (int i = 0; i < 256; i++) {
            fonts.font(i);
        }
        int place = fonts.length();
        fault("257 fonts", 9, place, fonts.add(244, 1, 0).four(0, 0, 0).add(0, 0));
        Files pages = Files.begun();
        for (int i = 0; i < 1300; i++) {
            pages.page(0).add(140);
        }
        int behind = pages.length();
        fault("1301 pages", 9, behind, pages.page(0).add(140).last().veryLast(4));
    }

    /** Of two faults in one command the one with the lower number counts; of two commands the first. */
    private static void order() {
        fault("2 before 3", 2, 15, Files.begun().add(172));
        fault("2 before 5", 2, 44, Files.begun().last().add(249).four(14).add(1).times(4, 223));
        fault("2 before 7", 2, 15, Files.begun().add(65));
        fault("3 before 9", 3, 15 + 256 * 18 + 29, manyFonts().last().add(244, 1, 0).four(0, 0, 0).add(0, 0));
        fault("3 behind 256 fonts", 3, 15 + 256 * 18, manyFonts().font(3, 0, 0, 0, "", ""));
        fine("256 fonts, one again", manyFonts().font(3).last().veryLast(4));
        fault("5 before 6", 5, 15, Files.begun().last(1, 1, 1, 1, 1));
        fault("5 before 2 behind it", 5, 44, Files.begun().last().add(249).four(14).add(2, 223));
        fault("7 before 9", 7, 2125, Files.inPage().font(1).add(172).times(2000, 65).add(140).page(0).add(65).end());
        DviBytes x = Files.inPage().font(1).add(172).times(2000, 64).add(146).four(Integer.MAX_VALUE).add(65).end()
                .fed();
        x.width(1, 65, 1);
        Expect.same("8 before 9", 802084, x::read);
        x.width(1, 65, 0);
        Expect.same("then 9", 902084, x::read);
        Files pages = Files.begun();
        for (int i = 0; i < 1300; i++) {
            pages.page(0).add(140);
        }
        fault("5 before 9", 5, 15 + 1300 * 46, pages.add(139).times(40, 0).four(3));
        fault("the first of two commands", 7, 60, Files.inPage().add(65, 142, 255));
    }

    private static Files manyFonts() {
        Files f = Files.begun();
        for (int i = 0; i < 256; i++) {
            f.font(i);
        }
        return f;
    }
}
