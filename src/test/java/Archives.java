/** Archives to begin a test with. */
final class Archives {
    static final int MIN = Integer.MIN_VALUE;
    static final int MAX = Integer.MAX_VALUE;

    private Archives() {
    }

    static void begin(FormatVault vault, int years) {
        for (int i = 0; i < years; i++) {
            vault.begin();
        }
    }

    static FormatVault inYear(int year) {
        FormatVault vault = new FormatVault();
        begin(vault, year);
        return vault;
    }

    /** The numbers just outside a range, and the least and the greatest one of an int. */
    static int[] outside(int lowest, int greatest) {
        return new int[] {lowest - 1, greatest + 1, MIN, MAX};
    }

    /** An archive whose formats 0 to 9 are a row, each made of the one ahead of it. */
    static FormatVault row(int loss, int cost) {
        FormatVault vault = new FormatVault();
        for (int i = 0; i < 9; i++) {
            vault.converter(i, i + 1, loss, cost);
        }
        return vault;
    }

    /** Takes in a file and moves it until it has no more than a quality, for nothing. */
    static int worn(FormatVault vault, int law, int quality) {
        int file = vault.file(0, 1, law);
        for (int i = 0; i < 20 && vault.qualityOf(file) > quality; i++) {
            vault.move(file, 1 - vault.formatOf(file));
        }
        return file;
    }

    /**
     * In the year 3, with room for more: format 2 has ended, 3 is in its last year, converter 7 is
     * withdrawn, file 2 is released, 3 is lost, 4 is held. What is left is 300.
     */
    static FormatVault busy() {
        FormatVault vault = new FormatVault();
        vault.setBudget(500);
        vault.law(1, 10, 900, 3);
        vault.law(2, 1, 0, 1);
        vault.law(3, 100, 1000, 50);
        vault.law(4, 6, 500, 2);
        vault.setLast(1, 30);
        vault.setLast(2, 2);
        vault.setLast(3, 3);
        vault.setLast(4, 8);
        vault.converter(0, 1, 100, 2);
        vault.converter(0, 8, 101, 0);
        vault.converter(1, 0, 0, 1);
        vault.converter(4, 0, 50, 3);
        vault.converter(4, 5, 500, 100);
        vault.converter(0, 2, 0, 0);
        vault.converter(3, 6, 10, 1);
        vault.converter(0, 7, 0, 0);
        vault.converter(2, 0, 0, 0);
        vault.withdraw(7);
        vault.file(0, 10, 1);
        vault.file(0, 10, 1);
        vault.file(5, 1, 2);
        vault.file(2, 1, 1);
        vault.file(3, 20, 0);
        vault.file(4, 1, 3);
        vault.file(4, 7, 4);
        vault.file(4, 5, 0);
        vault.file(0, 100, 0);
        vault.file(4, 100, 0);
        vault.move(0, 1);
        vault.move(1, 8);
        vault.hold(4, true);
        begin(vault, 3);
        vault.move(8, 1);
        return vault;
    }

    /** In the year 2, with 30 converters, of which 3 are withdrawn, and 40 files of all kinds. */
    static FormatVault full() {
        FormatVault vault = new FormatVault();
        vault.law(1, 1, 0, 1);
        vault.law(2, 100, 950, 2);
        vault.setLast(6, 1);
        vault.setLast(7, 2);
        vault.setLast(8, 12);
        for (int i = 0; i < 30; i++) {
            vault.converter(i % 10, (i % 10 + 1 + i / 10) % 10, i, 30 - i);
        }
        for (int i = 0; i < 40; i++) {
            vault.file(i % 9, i + 1, i % 4);
            vault.hold(i, i % 11 == 3);
        }
        vault.withdraw(5);
        vault.withdraw(17);
        vault.withdraw(29);
        begin(vault, 2);
        vault.move(0, 1);
        return vault;
    }
}
