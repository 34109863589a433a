/** What is told of a roll, asked in some twenty calls: an object is used for 512, and many pictures are made of it. */
final class Picture {
    private Picture() {
    }

    static String of(Rentroll roll) {
        StringBuilder told = new StringBuilder();
        told.append(roll.digest()).append(' ').append(roll.count(7));
        int flats = roll.count(0);
        int leases = roll.count(1);
        int bills = roll.count(2);
        for (int flat = 0; flat < flats; flat++) {
            told.append("\nflat ").append(roll.area(flat, 62)).append(' ').append(roll.reading(flat, 62));
            told.append(' ').append(roll.free(flat)).append(", ").append(roll.best(flat));
        }
        for (int lease = 0; lease < leases; lease++) {
            told.append("\n").append(roll.text(lease)).append(' ').append(roll.pressing(lease, 1824));
            told.append(' ').append(roll.due(lease, 2, 0)).append(' ').append(roll.due(lease, 2, 1));
            told.append(' ').append(roll.owed(lease, 62, 0)).append(' ').append(roll.depositOf(lease, 364, 0));
            told.append(' ').append(roll.interest(lease, 0, 400, true));
        }
        for (int bill = 0; bill < bills; bill++) {
            told.append(' ').append(roll.exactShare(bill, -1));
        }
        return told.toString();
    }
}
